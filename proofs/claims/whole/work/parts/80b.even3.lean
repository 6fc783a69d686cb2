/-! DOUBLES AND FLOATS that are no NaN -/
theorem zd_n32 {x : UInt32} (h : ¬ FP.Core.fIsNaN x = true) : vf_n32 x := by
  have h1 : x.toNat % 2 ^ 31 ≤ 2139095040 := by
    rcases Nat.lt_or_ge 2139095040 (x.toNat % 2 ^ 31) with z | z
    · exact absurd ((FP.Core.isNaN_bits32 x).mpr z) h
    · exact z
  unfold vf_n32
  rw [UInt32.le_iff_toNat_le, UInt32.toNat_and]
  show x.toNat &&& 2147483647 ≤ 2139095040
  rw [show (2147483647 : Nat) = 2 ^ 31 - 1 from rfl, Nat.and_two_pow_sub_one_eq_mod]
  exact h1
theorem zd_n64 {x : UInt64} (h : ¬ FP.Core.dIsNaN x = true) : vf_n64 x := by
  have h1 : x.toNat % 2 ^ 63 ≤ 9218868437227405312 := by
    rcases Nat.lt_or_ge 9218868437227405312 (x.toNat % 2 ^ 63) with z | z
    · exact absurd ((FP.Core.isNaN_bits x).mpr z) h
    · exact z
  unfold vf_n64
  rw [UInt64.le_iff_toNat_le, UInt64.toNat_and]
  show x.toNat &&& 9223372036854775807 ≤ 9218868437227405312
  rw [show (9223372036854775807 : Nat) = 2 ^ 63 - 1 from rfl, Nat.and_two_pow_sub_one_eq_mod]
  exact h1
theorem zd_fdivN {a b : Int32} (h : b ≠ 0) : ¬ FP.Core.fIsNaN (FP.fdiv (FP.i2f a) (FP.i2f b)) = true := fun z => by
  obtain ⟨s, c, q, e⟩ := FP.Core.i2f_fin a
  obtain ⟨s', c', q', e'⟩ := FP.Core.i2f_fin b
  rcases (FP.Core.fdiv_nan_iff _ _).mp z with z | z | ⟨s1, t1, z, -⟩ | ⟨-, z⟩
  · rw [e] at z
    cases z
  · rw [e'] at z
    cases z
  · rw [e] at z
    cases z
  · exact FP.Core.i2f_ne_zero h ((FP.Core.zero_bits232 _).mp z)
theorem zd_fdiv {a b : Int32} (h : b ≠ 0) : vf_n32 (FP.fdiv (FP.i2f a) (FP.i2f b)) := zd_n32 (zd_fdivN h)
theorem zd_ddivN {a : Int32} : ¬ FP.Core.dIsNaN (FP.ddiv (FP.i2d a) (4622945017495814144 : UInt64)) = true := fun z => by
  obtain ⟨s, c, q, e⟩ := FP.Core.i2d_fin a
  obtain ⟨s', c', q', e'⟩ := (FP.Core.fin_bits (4622945017495814144 : UInt64)).mpr (by decide)
  rcases (FP.Core.ddiv_nan_iff _ _).mp z with z | z | ⟨s1, t1, z, -⟩ | ⟨-, z⟩
  · rw [e] at z
    cases z
  · rw [e'] at z
    cases z
  · rw [e] at z
    cases z
  · exact absurd ((FP.Core.zero_bits2 _).mp z) (by decide)
theorem zd_ddiv {a : Int32} : vf_n64 (FP.ddiv (FP.i2d a) (4622945017495814144 : UInt64)) := zd_n64 zd_ddivN
/-! MEASURES, both sides -/
section zsl
variable {c r : rj_M} {S : Nat → Nat} {B : Nat → Int} {a0 a1 a2 : Int32}
set_option maxRecDepth 100000 in
theorem zo_meanEvening (hg : zr_grnd c 1 S) (hc : zr_prog c 1 S) (hr : zr_row (r.1 396) S B) (ok : zo_prog S) (og : zo_grnd S) : zo_out ["java/lang/IndexOutOfBoundsException"] (fX11_meanEvening c a0) ((mX12_meanEvening r a0).1 395 0) (fX12_meanEvening r a0) ∧ zo_rst r (mX12_meanEvening r a0) ∧ zo_cst c (mX11_meanEvening c a0) ∧ qX11_meanEvening c a0 ∧ qX12_meanEvening r a0 := by
  have hr' := zr_T hr
  have h0 : (mX12_lacksT r).1 395 0 = 0 := zm_T
  have hst : zo_rst r (mX12_lacksT r) := zo_rst_of zo_stillT
  have hF := @zm_F r
  have hFs := zo_rst_of (zo_stillF (r := r))
  unfold fX11_meanEvening mX12_meanEvening fX12_meanEvening mX11_meanEvening qX11_meanEvening qX12_meanEvening fX12_isDay
  rcases zn_p2 (μ := c) (ν := r) (a := a0) (c := 4) (d := 3) (n := 3) rfl rfl (by decide) with ⟨e1, e2, d, hd, rfl⟩ | ⟨e1, e2⟩
  · rw [e1, e2, zm_lacks1.1, zm_lacks1.2, if_pos rfl, if_pos rfl, zm_bmn]
    generalize mX12_lacksT r = m at hr' h0 hst
    have hz := zw_vis (c := c) (r := m) (f := bX11_meanEvening_9 c (nI d)) (g := bX12_meanEvening_17 r (nI d)) (x0 := (0 : Int32)) (y0 := (0 : Int32)) (fun _ x y => x = y) rfl (fun v x y c' r' hv cs rs h395 hxy => by
      subst hxy
      obtain ⟨P, hp, cst⟩ := zc_plan1 (zo_cst_grnd cs hg) (zo_cst_prog cs hc) ok og hv
      obtain ⟨q1, q2, q3, q4, q5, q6, q7⟩ := zq_even (zo_rst_row rs hr') ok og hv hd hp.2.2.2.2.1 hp.2.2.2.2.2
      unfold bX11_meanEvening_9 bX12_meanEvening_17
      dsimp only
      rw [q2, zc_weightOn hp ok og hv hd]
      exact ⟨rfl, cst, zq_evrst q5 q6 q7, q6 0 (by decide)⟩)
    obtain ⟨z1, z2, z3, z4⟩ := hz
    refine ⟨⟨z4.trans h0, by rw [z1]⟩, zo_rst_trans hst z3, z2, ⟨zd_ddiv, trivial⟩, fun _ => ⟨fun _ => ra_fo_i ?_, zd_ddiv, trivial⟩, fun z => absurd rfl z⟩
    refine zf_q (fun _ y => zo_rst m y.2) 12 0 _ (zo_rst_of ⟨fun _ _ => rfl, fun _ _ => rfl, rfl⟩) (fun v y _ hv rs => ?_)
    have hv : v < 12 := by omega
    obtain ⟨P, hp, -⟩ := zc_plan1 hg hc ok og hv
    obtain ⟨q1, q2, q3, q4, q5, q6, q7⟩ := zq_even (zo_rst_row rs hr') ok og hv hd hp.2.2.2.2.1 hp.2.2.2.2.2
    refine ⟨⟨q1, trivial⟩, ?_⟩
    have e : (bX12_meanEvening_17 r (nI d) v y).2 = mX12_findsEvening y.2 (nI v) (nI d) := by
      unfold bX12_meanEvening_17
      generalize mX12_findsEvening y.2 (nI v) (nI d) = LM
      rfl
    rw [e]
    exact zo_rst_trans rs (zq_evrst q5 q6 q7)
  · rw [e1, e2, zm_lacks0.1, zm_lacks0.2, if_neg (show ¬ (1 : Int32) = 0 by decide), if_neg (show ¬ (1 : Int32) = 0 by decide), hF]
    exact ⟨zh_1, hFs, zo_cst_rfl, trivial, fun z => absurd z (by decide), fun _ => trivial⟩
theorem zm_rst3 {r : rj_M} {i j k : Nat} {x y z : Int32} (hi : i ≠ 3 ∧ i ≠ 11 ∧ i ≠ 0) (hj : j ≠ 3 ∧ j ≠ 11 ∧ j ≠ 0) (hk : k ≠ 3 ∧ k ≠ 11 ∧ k ≠ 0) : zo_rst r (rj_pi (rj_pi (rj_pi r 395 i x) 395 j y) 395 k z) ∧ (rj_pi (rj_pi (rj_pi r 395 i x) 395 j y) 395 k z).1 395 0 = r.1 395 0 := by
  have h : ∀ l, l ≠ i → l ≠ j → l ≠ k → (rj_pi (rj_pi (rj_pi r 395 i x) 395 j y) 395 k z).1 395 l = r.1 395 l := fun l h1 h2 h3 => (zm_pi_ne2 h3).trans ((zm_pi_ne2 h2).trans (zm_pi_ne2 h1))
  exact ⟨zo_rst_i (fun k hk _ => (zm_pi_ne hk).trans ((zm_pi_ne hk).trans (zm_pi_ne hk))) (h 3 hi.1.symm hj.1.symm hk.1.symm) (h 11 hi.2.1.symm hj.2.1.symm hk.2.1.symm) rfl, h 0 hi.2.2.symm hj.2.2.symm hk.2.2.symm⟩
/-- the lineup, both sides -/
theorem zo_lineup (hc : zr_prog c 1 S) (hr : zr_row (r.1 396) S B) (ok : zo_prog S) : ∃ set : Nat, set < 65536 ∧ fX7_lineup c = nI set ∧ fX12_lineup r = nI set ∧ zo_cst c (mX7_lineup c) ∧ zo_rst r (mX12_lineup r) ∧ (mX12_lineup r).1 395 0 = r.1 395 0 ∧ qX7_lineup c ∧ qX12_lineup r ∧ fX7_pleasingOfAll (mX7_lineup c) (nI set) = (mX12_lineup r).1 395 5 := by
  obtain ⟨k1, k2, k3⟩ := zc_look hc ok
  have hst : zo_cst c (mX7_lookAtAll c) := ⟨fun k hk => k1 k (fun z => by subst z; cases hk) (fun z => by subst z; cases hk), k2⟩
  obtain ⟨l1, l2⟩ := zc_lineup hc ok
  obtain ⟨q1, q2, q3⟩ := zq_lineup hr ok
  obtain ⟨M, b1, b2, b3⟩ := zl_val (el := zp_el S) (cl := zp_cl S) (p := zp_p S) 16 0 0
  rw [Nat.pow_zero, Nat.one_mul] at b1
  have hp : zr_prog (mX7_lineup c) 1 S := zo_cst_prog (c' := mX7_lookAtAll c) hst hc
  rw [b1] at l1 q1 q2
  obtain ⟨r1, r2⟩ := zm_rst3 (r := r) (i := 5) (j := 5) (k := 4) (x := -1) (y := nI (zl_best (zp_el S) (zp_cl S) (zp_p S) 16 0 0).1) (z := nI M) (by decide) (by decide) (by decide)
  refine ⟨M, b2, l1, q2, hst, by rw [q1]; exact r1, by rw [q1]; exact r2, l2, q3, ?_⟩
  rw [zc_pleasingOfAll hp ok b2, q1, zm_pi_ne2 (by decide), zm_pi_eq, b3]
  congr 1
theorem zs_le1 {f : Nat → Nat} : ∀ n, (∀ k, k < n → f k ≤ 1) → zs f n ≤ n
  | 0, _ => Nat.le_refl _
  | n + 1, h => by
    show zs f n + f n ≤ n + 1
    have h1 := zs_le1 (f := f) n (fun k hk => h k (by omega))
    have h2 := h n (Nat.lt_succ_self n)
    omega
theorem zo_lineupShare (hc : zr_prog c 1 S) (hr : zr_row (r.1 396) S B) (ok : zo_prog S) : fX11_lineupShare c = fX12_lineupShare r ∧ (mX12_lineupShare r).1 395 0 = 0 ∧ zo_rst r (mX12_lineupShare r) ∧ zo_cst c (mX11_lineupShare c) ∧ qX11_lineupShare c ∧ qX12_lineupShare r := by
  obtain ⟨a1, a2, a3, a4⟩ := zo_acts hc hr ok
  have hr' : zr_row ((rj_pi r 395 0 0).1 396) S B := by rw [zm_pi_ne (by decide)]; exact hr
  have h0 : (rj_pi r 395 0 0).1 395 0 = 0 := zm_pi_eq
  have hst : zo_rst r (rj_pi r 395 0 0) := zo_rst_of zo_still_t
  have hn : fX12_actsNow (rj_pi r 395 0 0) = fJ6_bitCount_0f7a4 c (fX7_numbers c) := a1.symm
  unfold fX11_lineupShare fX12_lineupShare mX12_lineupShare mX11_lineupShare qX11_lineupShare qX12_lineupShare
  rw [hn]
  generalize rj_pi r 395 0 0 = m at hr' h0 hst
  generalize fJ6_bitCount_0f7a4 c (fX7_numbers c) = all
  by_cases c0 : all = 0
  · rw [if_pos c0, if_pos c0, if_pos c0, if_pos c0, if_pos c0]
    exact ⟨rfl, h0, hst, zo_cst_rfl, trivial, fun _ => trivial, fun z => absurd c0 z⟩
  · obtain ⟨set, s1, s2, s3, s4, s5, s6, s7, s8, -⟩ := zo_lineup hc hr' ok
    rw [if_neg c0, if_neg c0, if_neg c0, if_neg c0, if_neg c0, s2, s3, zk_bc s1, zk_bc s1]
    exact ⟨rfl, s6.trans h0, zo_rst_trans hst s5, s4, ⟨s7, zd_fdiv c0, trivial⟩, fun z => absurd z c0, fun _ => ⟨s8, zd_fdiv c0, trivial⟩⟩
/-- the evenings are right, class -/
theorem zo_eveningsC (hg : zr_grnd c 1 S) (hc : zr_prog c 1 S) (ok : zo_prog S) (og : zo_grnd S) : fX11_areEveningsRight c = 1 ∧ zo_cst c (mX11_areEveningsRight c) := by
  have step : ∀ v c', v < 12 → zo_cst c c' → bX11_areEveningsRight_2 c v c' = .inl (mX2_planFor c' (nI v)) ∧ zo_cst c (mX2_planFor c' (nI v)) := fun v c' hv cs => by
    obtain ⟨P, hp, cst⟩ := zc_plan1 (zo_cst_grnd cs hg) (zo_cst_prog cs hc) ok og hv
    refine ⟨?_, zo_cst_trans cs cst⟩
    unfold bX11_areEveningsRight_2
    rcases zx_find (f := bX11_areEveningsRight_18 c v c') (fun _ => False) (fun _ => ()) 4 0 (fun d _ hd => .inr ⟨fun z => z, by
      unfold bX11_areEveningsRight_18
      have hd : d < 4 := by omega
      rw [zc_weightOn hp ok og hv hd, zc_great hp ok hd, if_pos rfl]⟩) with ⟨i, -, -, h3, -⟩ | ⟨-, h2⟩
    · exact absurd h3 (fun z => z)
    · rw [h2]
      rfl
  have hall : ∀ n j c', j + n ≤ 12 → zo_cst c c' → ∃ c2, rj_ix (bX11_areEveningsRight_2 c) n j c' = .inl c2 ∧ zo_cst c c2 := fun n => by
    induction n with
    | zero => exact fun j c' _ cs => ⟨c', rfl, cs⟩
    | succ n ih =>
      intro j c' hj cs
      obtain ⟨e1, e2⟩ := step j c' (by omega) cs
      obtain ⟨c2, d1, d2⟩ := ih (j + 1) (mX2_planFor c' (nI j)) (by omega) e2
      refine ⟨c2, ?_, d2⟩
      rw [rj_ix_l e1]
      exact d1
  obtain ⟨c2, d1, d2⟩ := hall 12 0 c (by decide) zo_cst_rfl
  unfold fX11_areEveningsRight mX11_areEveningsRight
  rw [d1]
  exact ⟨rfl, d2⟩
end zsl
