/-! THE BANDS ARE PAID -/
/-- a lineup's bits are acts -/
theorem zl_bits {el : Nat → Bool} {cl : Nat → Nat → Bool} {p : Nat → Nat} : ∀ (r k set : Nat), (zl_best el cl p r k set).2 % 2 ^ k = 0 ∧ ∀ i, (zl_best el cl p r k set).2.testBit i = true → el i = true ∧ k ≤ i ∧ i < k + r
  | 0, k, _ => ⟨Nat.zero_mod _, fun i hi => by
    have h : (0 : Nat).testBit i = true := hi
    rw [Nat.zero_testBit] at h
    cases h⟩
  | r + 1, k, set => by
    have h1 := zl_bits (el := el) (cl := cl) (p := p) r (k + 1) set
    have h2 := zl_bits (el := el) (cl := cl) (p := p) r (k + 1) (set + 2 ^ k)
    have hlow : ∀ w : Nat, w % 2 ^ (k + 1) = 0 → w % 2 ^ k = 0 := fun w hw => Nat.mod_eq_zero_of_dvd (Nat.dvd_trans (Nat.pow_dvd_pow 2 (Nat.le_succ k)) (Nat.dvd_of_mod_eq_zero hw))
    rw [zl_best_s]
    by_cases c : zl_canb el cl k set = true
    · rw [if_pos c]
      by_cases d : (zl_best el cl p r (k + 1) set).1 ≤ p k + (zl_best el cl p r (k + 1) (set + 2 ^ k)).1
      · rw [if_pos d]
        generalize (zl_best el cl p r (k + 1) (set + 2 ^ k)).2 = w at h2 ⊢
        refine ⟨?_, fun i hi => ?_⟩
        · show (2 ^ k + w) % 2 ^ k = 0
          rw [Nat.add_mod, Nat.mod_self, hlow w h2.1]
          exact Nat.zero_mod _
        · have hi : (2 ^ k + w).testBit i = true := hi
          obtain ⟨q, hq⟩ := Nat.dvd_of_mod_eq_zero h2.1
          rw [hq, Nat.add_comm, Nat.testBit_two_pow_mul_add _ (Nat.pow_lt_pow_right (by decide) (Nat.lt_succ_self k))] at hi
          by_cases e : i < k + 1
          · rw [if_pos e, Nat.testBit_two_pow] at hi
            have hik : k = i := by simpa using hi
            subst hik
            exact ⟨(zl_canb_iff.mp c).1, Nat.le_refl _, by omega⟩
          · rw [if_neg e] at hi
            have hw : w.testBit i = true := by
              have := Nat.testBit_two_pow_mul_add q (b := 0) (i := k + 1) (Nat.two_pow_pos _) i
              rw [Nat.add_zero, if_neg e] at this
              rw [hq, this]
              exact hi
            have h3 := h2.2 i hw
            exact ⟨h3.1, by omega, by omega⟩
      · rw [if_neg d]
        exact ⟨hlow _ h1.1, fun i hi => by
          have h3 := h1.2 i hi
          exact ⟨h3.1, by omega, by omega⟩⟩
    · rw [if_neg c]
      exact ⟨hlow _ h1.1, fun i hi => by
        have h3 := h1.2 i hi
        exact ⟨h3.1, by omega, by omega⟩⟩
def zk_all (S : Nat → Nat) (set n : Nat) : Nat := rj_fo (fun a s => if set.testBit a = true then s + zk_pc (S (28 + 6 * a)) 12 else s) n 0 0
theorem zk_all_s {S : Nat → Nat} {set n : Nat} : zk_all S set (n + 1) = if set.testBit n = true then zk_all S set n + zk_pc (S (28 + 6 * n)) 12 else zk_all S set n := by
  unfold zk_all
  rw [zf_last n 0, Nat.zero_add]
theorem zk_all_le {S : Nat → Nat} {set : Nat} : ∀ n, zk_all S set n ≤ 12 * n
  | 0 => Nat.le_refl _
  | n + 1 => by
    have h1 := zk_all_le (S := S) (set := set) n
    have h2 := zk_pc_le (x := S (28 + 6 * n)) 12
    rw [zk_all_s]
    split <;> omega
section zqPay
variable {r c : rj_M} {S : Nat → Nat} {B : Nat → Int} {set : Nat}
theorem zk_mem (ok : zo_prog S) {a : Nat} (ha : a < 16) : S (28 + 6 * a) < 4096 := (ok.1 a ha).2.2.2.2.2.2.2.1
theorem zc_allPaid (h : zr_prog c 1 S) (ok : zo_prog S) (hs : set < 65536) (hb : ∀ a, set.testBit a = true → zp_has S a ∧ a < 16) : rj_fo (bX8_payMembers_5 c (nI set)) 16 0 0 = nI (zk_all S set 16) := by
  unfold zk_all
  exact zf_rel (fun _ x y => x = nI y) 16 0 (0 : Int32) (0 : Nat) rfl (fun j x y _ hj hx => by
    subst hx
    have hj16 : j < 16 := by omega
    have hm := zk_mem ok hj16
    unfold bX8_payMembers_5
    by_cases cb : set.testBit j = true
    · obtain ⟨he, -⟩ := hb j cb
      have hmem : fX7_membersOf c (nI j) = nI (S (28 + 6 * j)) := by
        unfold fX7_membersOf
        rcases zc_has h ok hj16 with ⟨-, e2⟩ | ⟨e, -⟩
        · rw [e2, if_neg (by decide), nI_clamp (n := j) (by omega)]
          have h5 := (h.1 j hj16).2.2.2.2
          rw [if_pos he] at h5
          exact h5
        · exact absurd he e
      rw [(zn_bit1 (by omega) (by omega)).mpr cb, if_pos cb, hmem, zk_bc (by omega), zk_pc12 hm, show (1 : Int32) = nI 1 from rfl, pk_mul, Nat.one_mul, nI_add]
    · have cb' : set.testBit j = false := by simpa using cb
      rw [(zn_bit0 (by omega) (by omega)).mpr cb', if_neg cb, Int32.zero_mul, Int32.add_zero])
theorem zq_allPaid {mu : rj_M} {f : Nat → Int32 → Int32} (h : zr_row (r.1 396) S B) (ok : zo_prog S) (hs : set < 65536) (hf : ∀ j s, f j s = if ((nI set >>> ((nI j) &&& 31)) &&& 1) = 1 then (s + (fJ6_bitCount_0f7a4 mu (fX12_its r (nI j) 5))) else (s + 0)) : rj_fo f 16 0 0 = nI (zk_all S set 16) := by
  unfold zk_all
  exact zf_rel (fun _ x y => x = nI y) 16 0 (0 : Int32) (0 : Nat) rfl (fun j x y _ hj hx => by
    subst hx
    have hj16 : j < 16 := by omega
    have hm := zk_mem ok hj16
    rw [hf]
    by_cases cb : set.testBit j = true
    · rw [if_pos ((zn_bit1 (by omega) (by omega)).mpr cb), if_pos cb, zq_mem h hj16, zk_bc (by omega), zk_pc12 hm, nI_add]
    · rw [if_neg (fun z => cb ((zn_bit1 (by omega) (by omega)).mp z)), if_neg cb, Int32.add_zero])
/-- nothing is paid: all stays -/
theorem zq_nopay {f : Nat → rj_M → rj_M} {g : Nat → rj_M → Nat → rj_M → rj_M} (h : zr_row (r.1 396) S B) (hf : ∀ a s, f a s = rj_fo (g a s) 12 0 s) (hg : ∀ a s m x, g a s m x = if ((nI set >>> ((nI a) &&& 31)) &&& 1) = 1 then (if (((fX12_its x (nI a) 5) >>> ((nI m) &&& 31)) &&& 1) = 1 then (mX12_pays x 0 (13 + (nI m)) 0) else x) else x) : zr_row ((rj_fo f 16 0 r).1 396) S B ∧ (∀ k, k ≠ 396 → (rj_fo f 16 0 r).1 k = r.1 k) ∧ (rj_fo f 16 0 r).2 = r.2 := by
  refine zf_inv (f := f) (fun _ s => zr_row (s.1 396) S B ∧ (∀ k, k ≠ 396 → s.1 k = r.1 k) ∧ s.2 = r.2) 16 0 r ⟨h, fun _ _ => rfl, rfl⟩ (fun a s _ ha hs => ?_)
  rw [hf]
  refine zf_inv (f := g a s) (fun _ x => zr_row (x.1 396) S B ∧ (∀ k, k ≠ 396 → x.1 k = r.1 k) ∧ x.2 = r.2) 12 0 s hs (fun m x _ hm ⟨x1, x2, x3⟩ => ?_)
  rw [hg]
  have e13 : (13 : Int32) + nI m = nI (13 + m) := by rw [show (13 : Int32) = nI 13 from rfl, nI_add]
  have hp := zq_pays (f := 0) (t := 13 + m) (x := 0) x1 (by decide) (by omega) (by omega)
  rw [show nI 0 = (0 : Int32) from rfl] at hp
  rw [e13]
  have hB : ∀ k, zB_pay B 0 (13 + m) ((0 : Nat) : Int) k = B k := fun k => by
    unfold zB_pay
    split
    · show B k + 0 = B k
      omega
    · split
      · show B k - 0 = B k
        omega
      · rfl
  have hp1 : zr_row ((mX12_pays x 0 (nI (13 + m)) 0).1 396) S B := by
    have h9 := hp.1
    rw [show zB_pay B 0 (13 + m) ((0 : Nat) : Int) = B from funext hB] at h9
    exact h9
  split
  · split
    · exact ⟨hp1, fun k hk => (hp.2.1 k hk).trans (x2 k hk), hp.2.2.trans x3⟩
    · exact ⟨x1, x2, x3⟩
  · exact ⟨x1, x2, x3⟩
def zB_sum (B : Nat → Int) : Int := B 0 + B 1 + B 2 + B 3 + B 4 + B 5 + B 6 + B 7 + B 8 + B 9 + B 10 + B 11 + B 12 + B 13 + B 14 + B 15 + B 16 + B 17 + B 18 + B 19 + B 20 + B 21 + B 22 + B 23 + B 24
theorem zB_sum_fo {B : Nat → Int} : zB_sum B = rj_fo (fun k s => s + B k) 25 0 0 := by
  unfold zB_sum
  simp only [rj_fo, Nat.reduceAdd, Int.zero_add]
theorem zB_fo_pay {B : Nat → Int} {f t : Nat} {x : Int} (hft : f ≠ t) : ∀ n, rj_fo (fun k s => s + zB_pay B f t x k) n 0 0 = rj_fo (fun k s => s + B k) n 0 0 + (if t < n then x else 0) - (if f < n then x else 0)
  | 0 => by
    rw [if_neg (Nat.not_lt_zero _), if_neg (Nat.not_lt_zero _)]
    rfl
  | n + 1 => by
    rw [zf_last n 0, zf_last n 0, zB_fo_pay hft n, Nat.zero_add]
    show _ + zB_pay B f t x n = _ + B n + _ - _
    by_cases e1 : n = t
    · subst e1
      rw [zB_t, if_neg (Nat.lt_irrefl _), if_pos (Nat.lt_succ_self _)]
      by_cases e2 : f < n
      · rw [if_pos e2, if_pos (by omega)]
        omega
      · rw [if_neg e2, if_neg (by omega)]
        omega
    · by_cases e2 : n = f
      · subst e2
        rw [zB_f hft, if_neg (Nat.lt_irrefl _), if_pos (Nat.lt_succ_self _)]
        by_cases e3 : t < n
        · rw [if_pos e3, if_pos (by omega)]
          omega
        · rw [if_neg e3, if_neg (by omega)]
          omega
      · rw [zB_o e2 e1]
        by_cases e3 : t < n <;> by_cases e4 : f < n
        · rw [if_pos e3, if_pos e4, if_pos (by omega), if_pos (by omega)]
          omega
        · rw [if_pos e3, if_neg e4, if_pos (by omega), if_neg (by omega)]
          omega
        · rw [if_neg e3, if_pos e4, if_neg (by omega), if_pos (by omega)]
          omega
        · rw [if_neg e3, if_neg e4, if_neg (by omega), if_neg (by omega)]
          omega
theorem zB_sum_pay {f t : Nat} {x : Int} (hf : f < 25) (ht : t < 25) (hft : f ≠ t) : zB_sum (zB_pay B f t x) = zB_sum B := by
  rw [zB_sum_fo, zB_sum_fo, zB_fo_pay hft 25, if_pos ht, if_pos hf]
  omega
/-- both sides in the midst of the pay: t times something was paid -/
def zb_paid (c0 r0 : rj_M) (S : Nat → Nat) (B : Nat → Int) (sh t : Nat) (x y : rj_M) : Prop := ∃ Bi : Nat → Int, (∀ m, m < 12 → x.2.1 43 m = Int64.ofInt (Bi (13 + m))) ∧ zr_row (y.1 396) S Bi ∧ Bi 0 = B 0 - ((sh * t : Nat) : Int) ∧ (∀ k, 1 ≤ k → k < 13 → Bi k = B k) ∧ (∀ m, m < 12 → B (13 + m) ≤ Bi (13 + m)) ∧ zB_sum Bi = zB_sum B ∧ x.1 = c0.1 ∧ (∀ k, k ≠ 43 → x.2.1 k = c0.2.1 k) ∧ x.2.2 = c0.2.2 ∧ (∀ k, k ≠ 396 → y.1 k = r0.1 k) ∧ y.2 = r0.2
theorem zb_payAct {c0 r0 x y : rj_M} {sh t a mem : Nat} {mu : rj_M} {g : Nat → rj_M → rj_M} (h : zb_paid c0 r0 S B sh t x y) (hsh : sh < 2 ^ 31) (ha : a < 16) (hmem : S (28 + 6 * a) = mem) (hm : mem < 4096) (hg : ∀ m z, g m z = if (((fX12_its z (nI a) 5) >>> ((nI m) &&& 31)) &&& 1) = 1 then (mX12_pays z 0 (13 + (nI m)) (nI sh)) else z) : zb_paid c0 r0 S B sh (t + zk_pc mem 12) (rj_fo (bX8_payAct_3 mu (nI mem) (lN sh)) 12 0 x) (rj_fo g 12 0 y) := by
  have key : ∀ n, n ≤ 12 → zb_paid c0 r0 S B sh (t + zk_pc mem n) (rj_fo (bX8_payAct_3 mu (nI mem) (lN sh)) n 0 x) (rj_fo g n 0 y) := fun n => by
    induction n with
    | zero => exact fun _ => h
    | succ n ih =>
      intro hn
      obtain ⟨Bi, b1, b2, b3, b4, b5, b6, b7, b8, b9, b10, b11⟩ := ih (by omega)
      rw [zf_last n 0, zf_last n 0, Nat.zero_add, hg, zk_pc_s]
      generalize rj_fo (bX8_payAct_3 mu (nI mem) (lN sh)) n 0 x = x' at b1 b7 b8 b9 ⊢
      generalize rj_fo g n 0 y = y' at b2 b10 b11 ⊢
      unfold bX8_payAct_3
      rw [zq_mem b2 ha, hmem]
      have e13 : (13 : Int32) + nI n = nI (13 + n) := by rw [show (13 : Int32) = nI 13 from rfl, nI_add]
      by_cases cb : mem.testBit n = true
      · rw [if_pos cb, if_neg (fun z => by rw [(zn_bit0 (by omega) (by omega)).mp z] at cb; cases cb), if_pos ((zn_bit1 (by omega) (by omega)).mpr cb), e13, nI_clamp (n := n) (by omega), b1 n (by omega)]
        obtain ⟨p1, p2, p3⟩ := zq_pays (f := 0) (t := 13 + n) (x := sh) b2 (by decide) (by omega) (by omega)
        rw [show nI 0 = (0 : Int32) from rfl] at p1 p2 p3
        refine ⟨zB_pay Bi 0 (13 + n) sh, fun m hm' => ?_, p1, ?_, fun k k1 k2 => ?_, fun m hm' => ?_, (zB_sum_pay (by decide) (by omega) (by omega)).trans b6, b7, fun k hk => ?_, b9, fun k hk => (p2 k hk).trans (b10 k hk), p3.trans b11⟩
        · rw [zm_pl]
          by_cases e : m = n
          · rw [if_pos ⟨rfl, e⟩, e, zB_t, zn_o64, Int64.ofInt_add]
          · rw [if_neg (fun z => e z.2), zB_o (by omega) (by omega)]
            exact b1 m hm'
        · rw [zB_f (by omega), b3]
          have : sh * (t + (zk_pc mem n + 1)) = sh * (t + zk_pc mem n) + sh := by rw [← Nat.add_assoc, Nat.mul_add sh _ 1, Nat.mul_one]
          rw [this]
          omega
        · rw [zB_o (by omega) (by omega)]
          exact b4 k k1 k2
        · by_cases e : m = n
          · rw [e, zB_t]
            have := b5 n (by omega)
            omega
          · rw [zB_o (by omega) (by omega)]
            exact b5 m hm'
        · rw [zm_pl_ne hk]
          exact b8 k hk
      · have cb' : mem.testBit n = false := by simpa using cb
        rw [if_neg cb, if_pos ((zn_bit0 (by omega) (by omega)).mpr cb'), if_neg (fun z => cb ((zn_bit1 (by omega) (by omega)).mp z))]
        exact ⟨Bi, b1, b2, b3, b4, b5, b6, b7, b8, b9, b10, b11⟩
  exact key 12 (Nat.le_refl _)
end zqPay
