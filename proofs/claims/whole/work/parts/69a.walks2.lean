/-! WAYS on both sides -/
def zk_w (S : Nat → Nat) (x y : Nat) : Nat := S (7 + 4 * x + y)
theorem zk_w0 {S : Nat → Nat} (ok : zo_grnd S) : ∀ a, a < 4 → zk_w S a a = 0 := fun a ha => ok.2.2.1 a ha
theorem zk_ws {S : Nat → Nat} (ok : zo_grnd S) : ∀ a b, a < 4 → b < 4 → zk_w S a b = zk_w S b a := fun a b ha hb => (ok.2.1 a b ha hb).2
theorem zk_w60 {S : Nat → Nat} (ok : zo_grnd S) : ∀ a b, a < 4 → b < 4 → zk_w S a b ≤ 60 := fun a b ha hb => (ok.2.1 a b ha hb).1
theorem zk_fw60 {S : Nat → Nat} (ok : zo_grnd S) {a b : Nat} (ha : a < 4) (hb : b < 4) : zk_fw (zk_w S) a b ≤ 60 := Nat.le_trans zk_fw_le (zk_w60 ok a b ha hb)
theorem zk_mb {c : rj_M} {S : Nat → Nat} (h : zr_grnd c 1 S) {i j : Nat} (hi : i < 4) (hj : j < 4) : fX4_minutesBetween c (nI i) (nI j) = nI (zk_fw (zk_w S) i j) := by
  have h1 : (nI i * 4) + nI j = nI (4 * i + j) := by rw [show (4 : Int32) = nI 4 from rfl, pk_mul, nI_add, Nat.mul_comm]
  unfold fX4_minutesBetween
  rw [h1, if_neg (nI_pos (by omega)), if_pos (show nI (4 * i + j) < (16 : Int32) from nI_lt (a := 4 * i + j) (b := 16) (by omega) (by decide)), nI_clamp (by omega)]
  exact h.2.2.1 i j hi hj
theorem zq_way {r : rj_M} {S : Nat → Nat} {B : Nat → Int} (h : zr_row (r.1 396) S B) {i j : Nat} (hi : i < 4) (hj : j < 4) : r.1 396 ((7 + (4 * nI i)) + nI j).toNatClampNeg = nI (zk_w S i j) := by
  rw [show (7 : Int32) = nI 7 from rfl, show (4 : Int32) = nI 4 from rfl, pk_mul, nI_add, nI_add, nI_clamp (by omega), h.1 _ (by omega)]
  rfl
theorem zq_walkOf {r : rj_M} {S : Nat → Nat} {B : Nat → Int} (h : zr_row (r.1 396) S B) (ok : zo_grnd S) {i j : Nat} (hi : i < 4) (hj : j < 4) : fX12_walkOf r (nI i) (nI j) = nI (zk_fw (zk_w S) i j) ∧ qX12_walkOf r (nI i) (nI j) := by
  have w60 := zk_w60 ok
  have hq : ∀ s0, rq_fo (qX12_walkOf_26 r (nI i) (nI j)) (bX12_walkOf_26 r (nI i) (nI j)) 4 0 s0 := fun s0 => zf_q (fun _ _ => True) 4 0 s0 trivial (fun a s _ ha _ => ⟨⟨fun _ => ra_fo_i (zf_q (fun _ _ => True) 4 0 s trivial (fun b t _ hb _ => by
    refine ⟨⟨fun _ => trivial, fun _ => ⟨?_, ?_, trivial⟩⟩, trivial⟩
    · rw [show (7 : Int32) = nI 7 from rfl, show (4 : Int32) = nI 4 from rfl, pk_mul, nI_add, nI_add]
      exact vp_in_nI (by omega) (by decide)
    · rw [show (7 : Int32) = nI 7 from rfl, show (4 : Int32) = nI 4 from rfl, pk_mul, nI_add, nI_add]
      exact vp_in_nI (by omega) (by decide))), trivial⟩, trivial⟩)
  refine ⟨?_, fun _ => ⟨fun _ => ra_fo_i (hq _), trivial⟩, fun _ => ⟨fun _ => ra_fo_i (hq _), trivial⟩⟩
  unfold fX12_walkOf
  by_cases e : i = j
  · subst e
    rw [if_pos rfl]
    have hz := zf_inv (f := bX12_walkOf_26 r (nI i) (nI i)) (fun _ s => s = 0) 4 0 (0 : Int32) rfl (fun a s _ ha hs => by
      subst hs
      exact zf_inv (f := bX12_walkOf_35 r (nI i) (nI i) a 0) (fun _ s => s = 0) 4 0 (0 : Int32) rfl (fun b s _ hb hs => by
        unfold bX12_walkOf_35
        rw [if_pos rfl]
        exact hs))
    rw [hz, show zk_fw (zk_w S) i i = 0 by have h1 := zk_fw_le (w := zk_w S) (i := i) (j := i); rw [zk_w0 ok i hi] at h1; omega]
    rfl
  · have hne : ¬ nI i = nI j := fun z => e ((nI_eq (by omega) (by omega)).mp z)
    rw [if_neg hne, zq_way h hi hj]
    have hz := zf_inv (f := bX12_walkOf_26 r (nI i) (nI j)) (fun a s => ∃ R, s = nI R ∧ R ≤ zk_w S i j ∧ (∀ x y, x < a → y < 4 → R ≤ zk_w S i x + zk_w S x y + zk_w S y j) ∧ (R = zk_w S i j ∨ ∃ x y, x < 4 ∧ y < 4 ∧ R = zk_w S i x + zk_w S x y + zk_w S y j)) 4 0 (nI (zk_w S i j)) ⟨_, rfl, Nat.le_refl _, fun x y hx => absurd hx (Nat.not_lt_zero _), .inl rfl⟩ (fun a s _ ha ⟨R, s1, s2, s3, s4⟩ => by
      have ha4 : a < 4 := by omega
      have hy := zf_inv (f := bX12_walkOf_35 r (nI i) (nI j) a s) (fun b t => ∃ R, t = nI R ∧ R ≤ zk_w S i j ∧ (∀ x y, x < a → y < 4 → R ≤ zk_w S i x + zk_w S x y + zk_w S y j) ∧ (∀ y, y < b → R ≤ zk_w S i a + zk_w S a y + zk_w S y j) ∧ (R = zk_w S i j ∨ ∃ x y, x < 4 ∧ y < 4 ∧ R = zk_w S i x + zk_w S x y + zk_w S y j)) 4 0 s ⟨R, s1, s2, s3, fun y hy => absurd hy (Nat.not_lt_zero _), s4⟩ (fun b t _ hb ⟨R, t1, t2, t3, t4, t5⟩ => by
        have hb4 : b < 4 := by omega
        have b1 := w60 i a hi ha4
        have b2 := w60 a b ha4 hb4
        have b3 := w60 b j hb4 hj
        have b4 := w60 i j hi hj
        unfold bX12_walkOf_35
        rw [if_neg hne, zq_way h hi ha4, zq_way h ha4 hb4, zq_way h hb4 hj, nI_add, nI_add, t1]
        by_cases c : zk_w S i a + zk_w S a b + zk_w S b j < R
        · rw [if_pos (nI_lt c (by omega))]
          refine ⟨_, rfl, by omega, fun x y hx hy => by have := t3 x y hx hy; omega, fun y hy => ?_, .inr ⟨a, b, ha4, hb4, rfl⟩⟩
          by_cases e2 : y = b
          · subst e2
            exact Nat.le_refl _
          · have := t4 y (by omega)
            omega
        · rw [if_neg (nI_nlt (Nat.le_of_not_lt c) (by omega))]
          refine ⟨R, rfl, t2, t3, fun y hy => ?_, t5⟩
          by_cases e2 : y = b
          · subst e2
            omega
          · exact t4 y (by omega))
      obtain ⟨R, t1, t2, t3, t4, t5⟩ := hy
      refine ⟨R, t1, t2, fun x y hx hy => ?_, t5⟩
      by_cases e2 : x = a
      · subst e2
        exact t4 y (by omega)
      · exact t3 x y (by omega) hy)
    obtain ⟨R, s1, s2, s3, s4⟩ := hz
    rw [s1, zk_eq (zk_w0 ok) (zk_ws ok) hi hj (fun a b ha hb => s3 a b (by omega) hb) (fun X hX => ?_)]
    rcases s4 with z | ⟨x, y, hx, hy, z⟩
    · have h1 := hX i j hi hj
      rw [zk_w0 ok i hi, zk_w0 ok j hj] at h1
      omega
    · rw [z]
      exact hX x y hx hy
/-- the class's rounds -/
def zk_it (w : Nat → Nat → Nat) : Nat → Nat → Nat → Nat
  | 0 => w
  | k + 1 => zk_ph (zk_it w k) k
theorem zk_it_le {w : Nat → Nat → Nat} {x y : Nat} : ∀ k, zk_it w k x y ≤ w x y
  | 0 => Nat.le_refl _
  | k + 1 => Nat.le_trans zk_ph_le (zk_it_le k)
theorem zc_measure {c : rj_M} {w : Nat → Nat → Nat} (h5 : ∀ x y, x < 4 → y < 4 → c.1 5 (4 * x + y) = nI (w x y)) (h0 : ∀ a, a < 4 → w a a = 0) (h60 : ∀ a b, a < 4 → b < 4 → w a b ≤ 60) : (∀ k, k ≠ 6 → (mX4_measureWalks c).1 k = c.1 k) ∧ (mX4_measureWalks c).2 = c.2 ∧ ∀ x y, x < 4 → y < 4 → (mX4_measureWalks c).1 6 (4 * x + y) = nI (zk_fw w x y) := by
  unfold mX4_measureWalks
  have hix : ∀ x y : Nat, (nI x * 4) + nI y = nI (4 * x + y) := fun x y => by rw [show (4 : Int32) = nI 4 from rfl, pk_mul, nI_add, Nat.mul_comm]
  have hz := zf_inv (f := bX4_measureWalks_13 c) (fun k s => (∀ k', k' ≠ 6 → s.1 k' = c.1 k') ∧ s.2 = c.2 ∧ ∀ x y, x < 4 → y < 4 → s.1 6 (4 * x + y) = nI (zk_it w k x y)) 4 0 (mX11_copyRow c 5 16 6 16) ⟨fun k' hk => zm_ri_ne hk, rfl, fun x y hx hy => by
    unfold mX11_copyRow
    rw [zm_ri_at, zm_cpy]
    show (if 4 * x + y < 16 then c.1 5 (4 * x + y) else c.1 6 (4 * x + y)) = _
    rw [if_pos (by omega), h5 x y hx hy]
    rfl⟩ (fun k s _ hk ⟨s1, s2, s3⟩ => by
    have hk4 : k < 4 := by omega
    have hD0 : zk_it w k k k = 0 := by
      have h1 := zk_it_le (w := w) (x := k) (y := k) k
      rw [h0 k hk4] at h1
      omega
    have hDb : ∀ x y, x < 4 → y < 4 → zk_it w k x y ≤ 60 := fun x y hx hy => Nat.le_trans (zk_it_le k) (h60 x y hx hy)
    generalize hD : zk_it w k = D at *
    have hr : ∀ x, zk_ph D k x k = D x k := fun x => by
      unfold zk_ph
      omega
    have hc : ∀ y, zk_ph D k k y = D k y := fun y => by
      unfold zk_ph
      omega
    have hf := zf_inv (f := bX4_measureWalks_20 c k s) (fun f t => (∀ k', k' ≠ 6 → t.1 k' = c.1 k') ∧ t.2 = c.2 ∧ ∀ x y, x < 4 → y < 4 → t.1 6 (4 * x + y) = nI (if x < f then zk_ph D k x y else D x y)) 4 0 s ⟨s1, s2, fun x y hx hy => by rw [if_neg (Nat.not_lt_zero x)]; exact s3 x y hx hy⟩ (fun f t _ hf ⟨t1, t2, t3⟩ => by
      have hf4 : f < 4 := by omega
      have ht := zf_inv (f := bX4_measureWalks_27 c k s f t) (fun o u => (∀ k', k' ≠ 6 → u.1 k' = c.1 k') ∧ u.2 = c.2 ∧ ∀ x y, x < 4 → y < 4 → u.1 6 (4 * x + y) = nI (if x < f ∨ (x = f ∧ y < o) then zk_ph D k x y else D x y)) 4 0 t ⟨t1, t2, fun x y hx hy => by
        rw [t3 x y hx hy]
        by_cases e : x < f
        · rw [if_pos e, if_pos (.inl e)]
        · rw [if_neg e, if_neg (by omega)]⟩ (fun o u _ ho ⟨u1, u2, u3⟩ => by
        have ho4 : o < 4 := by omega
        have e1 : u.1 6 (4 * f + k) = nI (D f k) := by
          rw [u3 f k hf4 hk4]
          split
          · rw [hr]
          · rfl
        have e2 : u.1 6 (4 * k + o) = nI (D k o) := by
          rw [u3 k o hk4 ho4]
          split
          · rw [hc]
          · rfl
        have e3 : u.1 6 (4 * f + o) = nI (D f o) := by
          rw [u3 f o hf4 ho4, if_neg (by omega)]
        have b1 := hDb f k hf4 hk4
        have b2 := hDb k o hk4 ho4
        have b3 := hDb f o hf4 ho4
        have hv : (if nI (D f k) + nI (D k o) < nI (D f o) then nI (D f k) + nI (D k o) else nI (D f o)) = nI (zk_ph D k f o) := by
          rw [nI_add]
          unfold zk_ph
          by_cases c1 : D f k + D k o < D f o
          · rw [if_pos (nI_lt c1 (by omega))]
            exact congrArg nI (by omega)
          · rw [if_neg (nI_nlt (Nat.le_of_not_lt c1) (by omega))]
            exact congrArg nI (by omega)
        unfold bX4_measureWalks_27
        rw [hix, hix, hix, nI_clamp (n := 4 * f + k) (by omega), nI_clamp (n := 4 * k + o) (by omega), nI_clamp (n := 4 * f + o) (by omega), e1, e2, e3, hv]
        refine ⟨fun k' hk' => (zm_pi_ne hk').trans (u1 k' hk'), u2, fun x y hx hy => ?_⟩
        by_cases e : 4 * x + y = 4 * f + o
        · have ex : x = f := by omega
          have ey : y = o := by omega
          subst ex
          subst ey
          rw [zm_pi_eq, if_pos (.inr ⟨rfl, Nat.lt_succ_self _⟩)]
        · rw [zm_pi_ne2 e, u3 x y hx hy]
          by_cases e2 : x < f ∨ (x = f ∧ y < o)
          · rw [if_pos e2, if_pos (by omega)]
          · rw [if_neg e2, if_neg (by omega)])
      obtain ⟨u1, u2, u3⟩ := ht
      refine ⟨u1, u2, fun x y hx hy => ?_⟩
      show (rj_fo (bX4_measureWalks_27 c k s f t) 4 0 t).1 6 (4 * x + y) = _
      rw [u3 x y hx hy]
      by_cases e : x < f + 1
      · rw [if_pos (by omega), if_pos e]
      · rw [if_neg (by omega), if_neg e])
    obtain ⟨t1, t2, t3⟩ := hf
    refine ⟨t1, t2, fun x y hx hy => ?_⟩
    show (rj_fo (bX4_measureWalks_20 c k s) 4 0 s).1 6 (4 * x + y) = _
    rw [t3 x y hx hy, if_pos (by omega)]
    show _ = nI (zk_ph (zk_it w k) k x y)
    rw [hD])
  rw [Nat.zero_add] at hz
  exact hz
