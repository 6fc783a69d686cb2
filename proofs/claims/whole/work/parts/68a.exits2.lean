/-! WAYS OUT on both sides -/
theorem zx_rel {ρ τ : Type} {f : Nat → Unit → Unit ⊕ ρ} {g : Nat → Unit → Unit ⊕ τ} (R : ρ → τ → Prop) : ∀ (r j : Nat), (∀ i, j ≤ i → i < j + r → (f i () = .inl () ∧ g i () = .inl ()) ∨ ∃ a b, f i () = .inr a ∧ g i () = .inr b ∧ R a b) → (rj_ix f r j () = .inl () ∧ rj_ix g r j () = .inl ()) ∨ ∃ a b, rj_ix f r j () = .inr a ∧ rj_ix g r j () = .inr b ∧ R a b
  | 0, _, _ => .inl ⟨rfl, rfl⟩
  | r + 1, j, H => by
    rcases H j (Nat.le_refl _) (by omega) with ⟨h1, h2⟩ | ⟨a, b, h1, h2, h3⟩
    · rw [rj_ix_l h1, rj_ix_l h2]
      exact zx_rel R r (j + 1) (fun i a1 a2 => H i (by omega) (by omega))
    · rw [rj_ix_r h1, rj_ix_r h2]
      exact .inr ⟨a, b, rfl, rfl, h3⟩
theorem zn_max0 {a b : Nat} (ha : a < 2 ^ 30) (hb : b < 2 ^ 30) : (if 0 < nI a - nI b then nI a - nI b else 0) = nI (a - b) := by
  by_cases c : b < a
  · rw [pk_sub (Nat.le_of_lt c), if_pos (show (0 : Int32) < nI (a - b) from nI_lt (a := 0) (b := a - b) (by omega) (by omega))]
  · have h : ¬ (0 : Int32) < nI a - nI b := Int32.not_lt.mpr ((zn_sub0 ha hb).mpr (by omega))
    rw [if_neg h, show a - b = 0 by omega]
    rfl
theorem zn_mul {a b : Nat} : nI a * nI b = nI (a * b) := pk_mul a b
def zx_g (S : Nat → Nat) (k : Nat) : Nat := S (311 + k)
def zx_r (S : Nat → Nat) (k j : Nat) : Nat := S (314 + 4 * k + j)
def zx_c (S : Nat → Nat) (j : Nat) : Nat := S (326 + j)
def zx_T (S : Nat → Nat) (m : Nat) : Nat := zr_many (zx_g S) (zx_r S) (zx_c S) m
theorem zx_r30 {S : Nat → Nat} (ok : zo_exit S) : ∀ k j, k < 3 → j < 4 → zx_r S k j ≤ 30 := fun k j hk hj => by
  have h := (ok.2.1 (4 * k + j) (by omega)).2
  unfold zx_r
  rw [show 314 + 4 * k + j = 314 + (4 * k + j) by omega]
  exact h
section zxCls
variable {c : rj_M} {S : Nat → Nat}
theorem zc_least (h : zr_exit c 1 S) (ok : zo_exit S) {k set : Nat} (hk : k < 3) (hs : set < 2 ^ 31) : fX3_leastReach c (nI k) (nI set) = nI (zr_min (zx_r S k) set 8192) := by
  unfold fX3_leastReach zr_min
  have hz := zf_rel (f := bX3_leastReach_7 c (nI k) (nI set)) (g := fun j s => if set.testBit j = true then (if zx_r S k j < s then zx_r S k j else s) else s) (fun _ x y => x = nI y ∧ y ≤ 8192) 4 0 (8192 : Int32) (8192 : Nat) ⟨rfl, Nat.le_refl _⟩ (fun j x y _ hj ⟨hx, hy⟩ => by
    have h1 : (nI k * 4) + nI j = nI (4 * k + j) := by rw [show (4 : Int32) = nI 4 from rfl, pk_mul, nI_add, Nat.mul_comm]
    have h2 : c.1 19 (4 * k + j) = nI (zx_r S k j) := by
      have h3 := h.2.1 (4 * k + j) (by omega)
      unfold zx_r
      rw [show 314 + 4 * k + j = 314 + (4 * k + j) by omega]
      exact h3
    have h30 := zx_r30 ok k j hk (by omega)
    unfold bX3_leastReach_7
    rw [h1, if_neg (nI_pos (by omega)), if_neg (show ¬ (12 : Int32) ≤ nI (4 * k + j) from nI_ge (a := 4 * k + j) (b := 12) (by omega) (by decide)), nI_clamp (n := 4 * k + j) (by omega), h2, hx]
    rcases ht : set.testBit j with _ | _
    · rw [if_pos ((zn_bit0 hs (by omega)).mpr ht), if_neg (by decide)]
      exact ⟨rfl, hy⟩
    · rw [if_neg (fun z => by rw [(zn_bit0 hs (by omega)).mp z] at ht; cases ht), if_pos rfl]
      by_cases e : zx_r S k j < y
      · rw [if_pos (nI_lt e (by omega)), if_pos e]
        exact ⟨rfl, by omega⟩
      · rw [if_neg (nI_nlt (Nat.le_of_not_lt e) (by omega)), if_neg e]
        exact ⟨rfl, hy⟩)
  exact hz.1
theorem zc_people (h : zr_exit c 1 S) {set : Nat} (hs : set < 2 ^ 31) : fX3_crowdOf c (nI set) = nI (zr_people (zx_c S) set) := by
  unfold fX3_crowdOf zr_people
  exact zf_rel (fun _ x y => x = nI y) 4 0 (0 : Int32) (0 : Nat) rfl (fun j x y _ hj hx => by
    have h2 : c.1 20 j = nI (zx_c S j) := h.2.2 j (by omega)
    unfold bX3_crowdOf_4
    rw [nI_clamp (n := j) (by omega), h2, hx]
    rcases ht : set.testBit j with _ | _
    · rw [if_pos ((zn_bit0 hs (by omega)).mpr ht), if_neg (by decide)]
    · rw [if_neg (fun z => by rw [(zn_bit0 hs (by omega)).mp z] at ht; cases ht), if_pos rfl, nI_add])
theorem zc_room (h : zr_exit c 1 S) (ok : zo_exit S) {set m : Nat} (hs : set < 2 ^ 31) (hm : m < 2 ^ 20) : fX3_roomFor c (nI set) (nI m) = nI (zr_room (zx_g S) (zx_r S) set m) := by
  unfold fX3_roomFor zr_room
  exact zf_rel (fun _ x y => x = nI y) 3 0 (0 : Int32) (0 : Nat) rfl (fun k x y _ hk hx => by
    have h2 : c.1 18 k = nI (zx_g S k) := h.1 k (by omega)
    have h3 := zr_min_le (rc := zx_r S k) (set := set) (m := 8192)
    unfold bX3_roomFor_5
    rw [nI_clamp (n := k) (by omega), h2, hx, zc_least h ok (by omega) hs, zn_max0 (by omega) (by omega), pk_mul, nI_add])
theorem zc_T (h : zr_exit c 1 S) (ok : zo_exit S) {m : Nat} (hm : m < 2 ^ 14) : fX3_firstTooFull c (nI m) = nI (zx_T S m) := by
  unfold fX3_firstTooFull zx_T zr_many
  have hz := zx_rel (f := bX3_firstTooFull_2 c (nI m)) (g := zr_b (zx_g S) (zx_r S) (zx_c S) m) (fun a b => a = nI b) 15 1 (fun i h1 h2 => by
    have hp := zr_people_le (cr := zx_c S) (set := i)
    have hr := zr_room_le (g := zx_g S) (rc := zx_r S) (set := i) (m := m) (fun k hk => ok.1 k hk)
    have c0 := ok.2.2 0 (by decide)
    have c1 := ok.2.2 1 (by decide)
    have c2 := ok.2.2 2 (by decide)
    have c3 := ok.2.2 3 (by decide)
    have hp2 : zr_people (zx_c S) i ≤ 8000 := by
      unfold zx_c at hp ⊢
      omega
    unfold bX3_firstTooFull_2 zr_b
    rw [zc_people h (by omega), zc_room h ok (by omega) (by omega)]
    by_cases e : zr_people (zx_c S) i ≤ zr_room (zx_g S) (zx_r S) i m
    · rw [if_pos (nI_le e (by omega)), if_pos e]
      exact .inl ⟨rfl, rfl⟩
    · rw [if_neg (nI_ge (Nat.lt_of_not_le e) (by omega)), if_neg e]
      exact .inr ⟨_, _, rfl, rfl, rfl⟩)
  rcases hz with ⟨h1, h2⟩ | ⟨a, b, h1, h2, h3⟩
  · rw [h1, h2]
    rfl
  · rw [h1, h2]
    exact h3
end zxCls
section zxRef
variable {r : rj_M} {S : Nat → Nat} {B : Nat → Int}
theorem zq_tooMany (h : zr_row (r.1 396) S B) (ok : zo_exit S) {m : Nat} (hm : m < 2 ^ 14) : fX12_tooMany r (nI m) = nI (zx_T S m) := by
  unfold fX12_tooMany zx_T zr_many
  have hz := zx_rel (f := bX12_tooMany_2 r (nI m)) (g := zr_b (zx_g S) (zx_r S) (zx_c S) m) (fun a b => a = nI b) 15 1 (fun i i1 i2 => by
    have hp := zr_people_le (cr := zx_c S) (set := i)
    have hr := zr_room_le (g := zx_g S) (rc := zx_r S) (set := i) (m := m) (fun k hk => ok.1 k hk)
    have c0 := ok.2.2 0 (by decide)
    have c1 := ok.2.2 1 (by decide)
    have c2 := ok.2.2 2 (by decide)
    have c3 := ok.2.2 3 (by decide)
    have hp2 : zr_people (zx_c S) i ≤ 8000 := by
      unfold zx_c at hp ⊢
      omega
    have hset := zr_set (set := i) i1 (by omega)
    have e1 : rj_fo (bX12_hasTooMany_8 r (nI i) (nI m)) 4 0 0 = nI (zr_people (zx_c S) i) := by
      unfold zr_people
      exact zf_rel (fun _ x y => x = nI y) 4 0 (0 : Int32) (0 : Nat) rfl (fun j x y _ hj hx => by
        have h2 : r.1 396 (326 + nI j).toNatClampNeg = nI (zx_c S j) := by
          rw [show (326 : Int32) + nI j = nI (326 + j) from nI_add 326 j, nI_clamp (by omega), h.1 _ (by omega)]
          rfl
        unfold bX12_hasTooMany_8
        rw [h2, hx]
        rcases ht : i.testBit j with _ | _
        · rw [if_neg (fun z => by rw [(zn_bit1 (by omega) (by omega)).mp z] at ht; cases ht), if_neg (by decide)]
          exact nI_add _ 0
        · rw [if_pos ((zn_bit1 (by omega) (by omega)).mpr ht), if_pos rfl, nI_add])
    have e2 : ∀ k s, k < 3 → rj_fo (bX12_hasTooMany_63 r (nI i) (nI m) k s) 4 0 (nI m) = nI (zr_min (zx_r S k) i m) := fun k s hk => by
      unfold zr_min
      have hz := zf_rel (f := bX12_hasTooMany_63 r (nI i) (nI m) k s) (g := fun j s => if i.testBit j = true then (if zx_r S k j < s then zx_r S k j else s) else s) (fun _ x y => x = nI y ∧ y ≤ m) 4 0 (nI m) m ⟨rfl, Nat.le_refl _⟩ (fun j x y _ hj ⟨hx, hy⟩ => by
        have h30 := zx_r30 ok k j hk (by omega)
        have h2 : r.1 396 ((314 + (4 * nI k)) + nI j).toNatClampNeg = nI (zx_r S k j) := by
          rw [show (314 : Int32) = nI 314 from rfl, show (4 : Int32) = nI 4 from rfl, pk_mul, nI_add, nI_add, nI_clamp (by omega), h.1 _ (by omega)]
          rfl
        unfold bX12_hasTooMany_63
        rw [h2, hx]
        rcases ht : i.testBit j with _ | _
        · rw [if_neg (fun z => by rw [(zn_bit1 (by omega) (by omega)).mp z] at ht; cases ht), if_neg (by decide)]
          exact ⟨rfl, hy⟩
        · rw [if_pos ((zn_bit1 (by omega) (by omega)).mpr ht), if_pos rfl]
          by_cases e : zx_r S k j < y
          · rw [if_pos (nI_lt e (by omega)), if_pos e]
            exact ⟨rfl, by omega⟩
          · rw [if_neg (nI_nlt (Nat.le_of_not_lt e) (by omega)), if_neg e]
            exact ⟨rfl, hy⟩)
      exact hz.1
    have e3 : rj_fo (bX12_hasTooMany_51 r (nI i) (nI m)) 3 0 0 = nI (zr_room (zx_g S) (zx_r S) i m) := by
      unfold zr_room
      exact zf_rel (fun _ x y => x = nI y) 3 0 (0 : Int32) (0 : Nat) rfl (fun k x y _ hk hx => by
        have h2 : r.1 396 (311 + nI k).toNatClampNeg = nI (zx_g S k) := by
          rw [show (311 : Int32) + nI k = nI (311 + k) from nI_add 311 k, nI_clamp (by omega), h.1 _ (by omega)]
          rfl
        have h3 := zr_min_le (rc := zx_r S k) (set := i) (m := m)
        unfold bX12_hasTooMany_51
        rw [h2, e2 k x (by omega), hx, pk_sub h3, pk_mul, nI_add, zr_min_sub hset (fun j hj => zx_r30 ok k j (by omega) hj)])
    unfold bX12_tooMany_2 zr_b fX12_hasTooMany
    rw [e1, e3]
    by_cases e : zr_people (zx_c S) i ≤ zr_room (zx_g S) (zx_r S) i m
    · rw [if_pos (nI_le e (by omega)), if_pos rfl, if_pos e]
      exact .inl ⟨rfl, rfl⟩
    · rw [if_neg (nI_ge (Nat.lt_of_not_le e) (by omega)), if_neg (by decide), if_neg e]
      exact .inr ⟨_, _, rfl, rfl, rfl⟩)
  rcases hz with ⟨h1, h2⟩ | ⟨a, b, h1, h2, h3⟩
  · rw [h1, h2]
    rfl
  · rw [h1, h2]
    exact h3
/-- the reference counts minute by minute -/
theorem zq_count (h : zr_row (r.1 396) S B) (ok : zo_exit S) {m : Nat} (hm : m ≤ 8030) (h0 : zx_T S m = 0) (hl : ∀ x, x < m → zx_T S x ≠ 0) {f : Int32 → Int32 ⊕ Int32} {q : Int32 → Prop} (hf : ∀ s, f s = if fX12_tooMany r s ≤ 0 then .inr s else .inl (s + 1)) (hq : ∀ s, q s) : rj_we f 9000 0 = nI m ∧ rq_we q f 9000 0 := by
  have hT : ∀ x, zx_T S x < 16 := fun x => zr_many_lt
  have hI : ∀ a : Int32, (∃ x, x ≤ m ∧ a = nI x) → (∀ z, f a = .inl z → (∃ x, x ≤ m ∧ z = nI x) ∧ (m - z.toNatClampNeg) < (m - a.toNatClampNeg)) ∧ (∀ z, f a = .inr z → z = nI m) := fun a ⟨x, x1, x2⟩ => by
    subst x2
    rw [hf, zq_tooMany h ok (by omega)]
    by_cases e : zx_T S x = 0
    · rw [e, if_pos (show nI 0 ≤ 0 by decide)]
      refine ⟨fun z hz => (by cases hz), fun z hz => ?_⟩
      cases hz
      by_cases e2 : x = m
      · rw [e2]
      · exact absurd e (hl x (by omega))
    · have hx : x < m := by
        by_cases e2 : x = m
        · subst e2
          exact absurd h0 e
        · omega
      rw [if_neg (nI_nle (by omega) (by have := hT x; omega)), nI_1]
      refine ⟨fun z hz => ?_, fun z hz => by cases hz⟩
      cases hz
      refine ⟨⟨x + 1, by omega, rfl⟩, ?_⟩
      rw [nI_clamp (by omega), nI_clamp (by omega)]
      omega
  refine ⟨zw_inv (fun a => ∃ x, x ≤ m ∧ a = nI x) (fun z => z = nI m) (fun a => m - a.toNatClampNeg) 9000 0 ⟨0, by omega, rfl⟩ (by omega) hI, ?_⟩
  exact zw_q (fun a => ∃ x, x ≤ m ∧ a = nI x) (fun a => m - a.toNatClampNeg) 9000 0 ⟨0, by omega, rfl⟩ (by omega) (fun a ha => ⟨hq a, (hI a ha).1⟩)
end zxRef
/-- the class halves -/
theorem zc_halves {c : rj_M} {S : Nat → Nat} (h : zr_exit c 1 S) (ok : zo_exit S) {m : Nat} (hm : m ≤ 8030) (h0 : zx_T S m = 0) (hl : ∀ x, x < m → zx_T S x ≠ 0) : (rj_we (bX3_minutesOut_30 c) 15 (0, 8192)).1 = nI m ∧ rq_we (qX3_minutesOut_30 c) (bX3_minutesOut_30 c) 15 (0, 8192) := by
  have hT : ∀ x, zx_T S x < 16 := fun x => zr_many_lt
  have hmono : ∀ x, m ≤ x → zx_T S x = 0 := fun x hx => zr_many_mono hx h0
  have hI : ∀ a : Int32 × Int32, ((∃ i x, i ≤ 13 ∧ a.2 = nI (2 ^ i) ∧ a.1 = nI x ∧ x ≤ m ∧ m < x + 2 ^ (i + 1)) ∨ (a.2 = 0 ∧ a.1 = nI m)) → (∀ z, bX3_minutesOut_30 c a = .inl z → ((∃ i x, i ≤ 13 ∧ z.2 = nI (2 ^ i) ∧ z.1 = nI x ∧ x ≤ m ∧ m < x + 2 ^ (i + 1)) ∨ (z.2 = 0 ∧ z.1 = nI m)) ∧ (if z.2.toNatClampNeg = 0 then 0 else Nat.log2 z.2.toNatClampNeg + 1) < (if a.2.toNatClampNeg = 0 then 0 else Nat.log2 a.2.toNatClampNeg + 1)) ∧ (∀ z, bX3_minutesOut_30 c a = .inr z → z.1 = nI m) := fun a ha => by
    rcases ha with ⟨i, x, hi, e2, e1, hx, hmx⟩ | ⟨e2, e1⟩
    · have hpos : 0 < 2 ^ i := Nat.two_pow_pos i
      have hple : 2 ^ i ≤ 2 ^ 13 := Nat.pow_le_pow_right (by decide) hi
      have hp1 : 2 ^ (i + 1) = 2 * 2 ^ i := by rw [Nat.pow_succ]; omega
      have hhalf : nI (2 ^ i) / 2 = nI (2 ^ i / 2) := pk_div (a := 2 ^ i) (d := 2) (by omega) (by decide) (by decide)
      have hme : (if a.2.toNatClampNeg = 0 then 0 else Nat.log2 a.2.toNatClampNeg + 1) = i + 1 := by
        rw [e2, nI_clamp (by omega), if_neg (by omega), Nat.log2_two_pow]
      -- the next step
      have hnext : ∀ x', x' ≤ m → m < x' + 2 ^ i → (((∃ i' x'', i' ≤ 13 ∧ nI (2 ^ i / 2) = nI (2 ^ i') ∧ nI x' = nI x'' ∧ x'' ≤ m ∧ m < x'' + 2 ^ (i' + 1)) ∨ (nI (2 ^ i / 2) = 0 ∧ nI x' = nI m)) ∧ (if (nI (2 ^ i / 2)).toNatClampNeg = 0 then 0 else Nat.log2 (nI (2 ^ i / 2)).toNatClampNeg + 1) < i + 1) := fun x' h1 h2 => by
        rcases i with _ | i
        · refine ⟨.inr ⟨rfl, ?_⟩, ?_⟩
          · rw [show x' = m by simp at h2; omega]
          · decide
        · have hd : 2 ^ (i + 1) / 2 = 2 ^ i := by rw [Nat.pow_succ]; omega
          have hple2 : 2 ^ i ≤ 2 ^ 13 := Nat.pow_le_pow_right (by decide) (by omega)
          have hpos2 : 0 < 2 ^ i := Nat.two_pow_pos i
          rw [hd]
          refine ⟨.inl ⟨i, x', by omega, rfl, rfl, h1, h2⟩, ?_⟩
          rw [nI_clamp (by omega), if_neg (by omega), Nat.log2_two_pow]
          omega
      unfold bX3_minutesOut_30
      rw [hme, e2, e1, if_neg (nI_nle hpos (by omega)), nI_add, show x + 2 ^ i = (x + 2 ^ i - 1) + 1 by omega, nI_pred, zc_T h ok (by omega), hhalf, show (x + 2 ^ i - 1) + 1 = x + 2 ^ i by omega]
      by_cases e : zx_T S (x + 2 ^ i - 1) = 0
      · have hlt : m < x + 2 ^ i := by
          refine Nat.lt_of_not_le (fun z => ?_)
          exact hl (x + 2 ^ i - 1) (by omega) e
        rw [e, if_pos (show nI 0 = 0 from rfl)]
        refine ⟨fun z hz => ?_, fun z hz => by cases hz⟩
        cases hz
        exact hnext x hx hlt
      · have hge : x + 2 ^ i ≤ m := by
          refine Nat.le_of_not_lt (fun z => ?_)
          exact e (hmono _ (by omega))
        rw [if_neg (show ¬ nI (zx_T S (x + 2 ^ i - 1)) = 0 from fun z => e ((nI_eq (b := 0) (by have := hT (x + 2 ^ i - 1); omega) (by decide)).mp z))]
        refine ⟨fun z hz => ?_, fun z hz => by cases hz⟩
        cases hz
        exact hnext (x + 2 ^ i) hge (by omega)
    · unfold bX3_minutesOut_30
      rw [e2, e1, if_pos (show (0 : Int32) ≤ 0 by decide)]
      refine ⟨fun z hz => (by cases hz), fun z hz => ?_⟩
      cases hz
      rfl
  have h00 : (∃ i x, i ≤ 13 ∧ ((0 : Int32), (8192 : Int32)).2 = nI (2 ^ i) ∧ ((0 : Int32), (8192 : Int32)).1 = nI x ∧ x ≤ m ∧ m < x + 2 ^ (i + 1)) ∨ (((0 : Int32), (8192 : Int32)).2 = 0 ∧ ((0 : Int32), (8192 : Int32)).1 = nI m) := .inl ⟨13, 0, Nat.le_refl _, rfl, rfl, Nat.zero_le _, by omega⟩
  have hm0 : (if ((0 : Int32), (8192 : Int32)).2.toNatClampNeg = 0 then 0 else Nat.log2 ((0 : Int32), (8192 : Int32)).2.toNatClampNeg + 1) < 15 := by decide
  exact ⟨zw_inv (fun a : Int32 × Int32 => (∃ i x, i ≤ 13 ∧ a.2 = nI (2 ^ i) ∧ a.1 = nI x ∧ x ≤ m ∧ m < x + 2 ^ (i + 1)) ∨ (a.2 = 0 ∧ a.1 = nI m)) (fun z => z.1 = nI m) (fun a => if a.2.toNatClampNeg = 0 then 0 else Nat.log2 a.2.toNatClampNeg + 1) 15 _ h00 hm0 hI, zw_q (fun a : Int32 × Int32 => (∃ i x, i ≤ 13 ∧ a.2 = nI (2 ^ i) ∧ a.1 = nI x ∧ x ≤ m ∧ m < x + 2 ^ (i + 1)) ∨ (a.2 = 0 ∧ a.1 = nI m)) (fun a => if a.2.toNatClampNeg = 0 then 0 else Nat.log2 a.2.toNatClampNeg + 1) 15 _ h00 hm0 (fun a ha => ⟨trivial, (hI a ha).1⟩)⟩
/-- THE MINUTES OUT, both sides -/
theorem zx_out {c r : rj_M} {S : Nat → Nat} {B : Nat → Int} (hc : zr_exit c 1 S) (h : zr_row (r.1 396) S B) (ok : zo_exit S) : ∃ o : Int32, (o = -1 ∨ ∃ m, m ≤ 8030 ∧ o = nI m) ∧ fX3_minutesOut c = o ∧ fX12_outByNow r = o ∧ qX3_minutesOut c ∧ qX12_outByNow r := by
  have g0 := ok.1 0 (by decide)
  have g1 := ok.1 1 (by decide)
  have g2 := ok.1 2 (by decide)
  have c0 := ok.2.2 0 (by decide)
  have c1 := ok.2.2 1 (by decide)
  have c2 := ok.2.2 2 (by decide)
  have c3 := ok.2.2 3 (by decide)
  have es1 : fX11_sumOf c 20 4 = nI (rj_fo (fun j s => s + zx_c S j) 4 0 0) := by
    unfold fX11_sumOf
    exact zf_rel (fun _ x y => x = nI y) 4 0 (0 : Int32) (0 : Nat) rfl (fun i x y _ h2 hx => by
      have h3 : c.1 20 i = nI (zx_c S i) := hc.2.2 i (by omega)
      unfold bX11_sumOf_4
      rw [nI_clamp (n := i) (by omega), h3, hx, nI_add])
  have es2 : fX11_sumOf c 18 3 = nI (rj_fo (fun j s => s + zx_g S j) 3 0 0) := by
    unfold fX11_sumOf
    exact zf_rel (fun _ x y => x = nI y) 3 0 (0 : Int32) (0 : Nat) rfl (fun i x y _ h2 hx => by
      have h3 : c.1 18 i = nI (zx_g S i) := hc.1 i (by omega)
      unfold bX11_sumOf_4
      rw [nI_clamp (n := i) (by omega), h3, hx, nI_add])
  have er1 : rj_fo (bX12_outByNow_6 r) 4 0 0 = nI (rj_fo (fun j s => s + zx_c S j) 4 0 0) := zf_rel (fun _ x y => x = nI y) 4 0 (0 : Int32) (0 : Nat) rfl (fun i x y _ h2 hx => by
    have h3 : r.1 396 (326 + nI i).toNatClampNeg = nI (zx_c S i) := by
      rw [show (326 : Int32) + nI i = nI (326 + i) from nI_add 326 i, nI_clamp (by omega), h.1 _ (by omega)]
      rfl
    unfold bX12_outByNow_6
    rw [h3, hx, nI_add])
  have er2 : rj_fo (bX12_outByNow_32 r) 3 0 0 = nI (rj_fo (fun j s => s + zx_g S j) 3 0 0) := zf_rel (fun _ x y => x = nI y) 3 0 (0 : Int32) (0 : Nat) rfl (fun i x y _ h2 hx => by
    have h3 : r.1 396 (311 + nI i).toNatClampNeg = nI (zx_g S i) := by
      rw [show (311 : Int32) + nI i = nI (311 + i) from nI_add 311 i, nI_clamp (by omega), h.1 _ (by omega)]
      rfl
    unfold bX12_outByNow_32
    rw [h3, hx, nI_add])
  have ec : rj_fo (fun j s => s + zx_c S j) 4 0 0 = zx_c S 0 + zx_c S 1 + zx_c S 2 + zx_c S 3 := by
    simp only [rj_fo, Nat.reduceAdd]
    omega
  have eg : rj_fo (fun j s => s + zx_g S j) 3 0 0 = zx_g S 0 + zx_g S 1 + zx_g S 2 := by
    simp only [rj_fo, Nat.reduceAdd]
    omega
  have hcb : zx_c S 0 + zx_c S 1 + zx_c S 2 + zx_c S 3 ≤ 8000 := by
    unfold zx_c
    omega
  have hgb : zx_g S 0 + zx_g S 1 + zx_g S 2 ≤ 150 := by
    unfold zx_g
    omega
  have hmain : (zx_c S 0 + zx_c S 1 + zx_c S 2 + zx_c S 3 = 0 ∨ 0 < zx_g S 0 + zx_g S 1 + zx_g S 2) → ∃ m, m ≤ 8030 ∧ zx_T S m = 0 ∧ ∀ x, x < m → zx_T S x ≠ 0 := fun z => zr_least 8030 (zr_bound (fun k j hk hj => zx_r30 ok k j hk hj) (fun j hj => ok.2.2 j hj) z)
  unfold fX3_minutesOut qX3_minutesOut fX12_outByNow qX12_outByNow
  rw [es1, es2, er1, er2, ec, eg]
  by_cases a : zx_c S 0 + zx_c S 1 + zx_c S 2 + zx_c S 3 = 0
  · obtain ⟨m, m1, m2, m3⟩ := hmain (.inl a)
    have hm0 : m = 0 := by
      have h0 : zx_T S 0 = 0 := zr_many_0.mpr (fun set _ _ => Nat.le_trans zr_people_le (by omega))
      refine Nat.eq_zero_of_not_pos (fun z => m3 0 z h0)
    subst hm0
    obtain ⟨q1, q2⟩ := zq_count h ok m1 m2 m3 (f := bX12_outByNow_68 r) (q := qX12_outByNow_68 r) (fun s => rfl) (fun s => trivial)
    rw [a, if_pos (show nI 0 = 0 from rfl), if_pos (show nI 0 = 0 from rfl), if_pos (show nI 0 ≤ 0 by decide)]
    exact ⟨nI 0, .inr ⟨0, by decide, rfl⟩, rfl, q1, trivial, fun _ => ⟨fun _ => ra_we_i q2, trivial⟩, fun z => absurd (show nI 0 ≤ 0 by decide) z⟩
  · have a1 : ¬ nI (zx_c S 0 + zx_c S 1 + zx_c S 2 + zx_c S 3) = 0 := nI_ne0 (by omega) (by omega)
    have a2 : ¬ nI (zx_c S 0 + zx_c S 1 + zx_c S 2 + zx_c S 3) ≤ 0 := nI_nle (by omega) (by omega)
    rw [if_neg a1, if_neg a1, if_neg a2]
    by_cases b : zx_g S 0 + zx_g S 1 + zx_g S 2 = 0
    · rw [b, if_pos (show nI 0 = 0 from rfl), if_pos (show nI 0 = 0 from rfl), if_pos (show nI 0 = 0 from rfl)]
      exact ⟨-1, .inl rfl, rfl, rfl, trivial, fun z => absurd z a2, fun _ => ⟨fun _ => trivial, fun z => absurd (show nI 0 = 0 from rfl) z⟩⟩
    · have b1 : ¬ nI (zx_g S 0 + zx_g S 1 + zx_g S 2) = 0 := nI_ne0 (by omega) (by omega)
      obtain ⟨m, m1, m2, m3⟩ := hmain (.inr (by omega))
      obtain ⟨q1, q2⟩ := zq_count h ok m1 m2 m3 (f := bX12_outByNow_68v r) (q := qX12_outByNow_68v r) (fun s => rfl) (fun s => trivial)
      obtain ⟨p1, p2⟩ := zc_halves hc ok m1 m2 m3
      rw [if_neg b1, if_neg b1, if_neg b1]
      exact ⟨nI m, .inr ⟨m, m1, rfl⟩, p1, q1, ⟨p2, trivial⟩, fun z => absurd z a2, fun _ => ⟨fun z => absurd z b1, fun _ => ⟨fun _ => ra_we_i q2, trivial⟩⟩⟩
