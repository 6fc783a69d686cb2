theorem rj_isin {μ : rj_M} {a lo hi : Int32} {n : Nat} (h : ¬ (fX12_in μ a lo hi) = 0) (h0 : lo = 0) (hh : Nat.ble (hi.toInt.toNat + 1) n = true) : vp_in a n := by
  subst h0
  unfold fX12_in at h
  by_cases h1 : a < 0
  · rw [if_pos h1] at h; exact absurd rfl h
  · rw [if_neg h1] at h
    by_cases h2 : hi < a
    · rw [if_pos h2] at h; exact absurd rfl h
    · have hh := Nat.le_of_ble_eq_true hh
      rw [vp_in_iff]
      rw [Int32.lt_iff_toInt_lt] at h1 h2
      have h0 : (0 : Int32).toInt = 0 := rfl
      omega
theorem rj_isStage {μ : rj_M} {a : Int32} (h : ¬ (fX12_isStage μ a) = 0) : vp_in a 4 := by
  unfold fX12_isStage at h
  exact rj_isin h rfl rfl
theorem rj_isDay {μ : rj_M} {a : Int32} (h : ¬ (fX12_isDay μ a) = 0) : vp_in a 4 := by
  unfold fX12_isDay at h
  exact rj_isin h rfl rfl
theorem rj_isVisitor {μ : rj_M} {a : Int32} (h : ¬ (fX12_isVisitor μ a) = 0) : vp_in a 12 := by
  unfold fX12_isVisitor at h
  exact rj_isin h rfl rfl
theorem rj_isBar {μ : rj_M} {a : Int32} (h : ¬ (fX12_isBar μ a) = 0) : vp_in a 3 := by
  unfold fX12_isBar at h
  exact rj_isin h rfl rfl
theorem rj_isHour {μ : rj_M} {a : Int32} (h : ¬ (fX12_isHour μ a) = 0) : vp_in a 24 := by
  unfold fX12_isHour at h
  exact rj_isin h rfl rfl
theorem rj_isGate {μ : rj_M} {a : Int32} (h : ¬ (fX12_isGate μ a) = 0) : vp_in a 3 := by
  unfold fX12_isGate at h
  exact rj_isin h rfl rfl
theorem rj_ltin {a : Int32} {j n : Nat} (hj : j < a.toInt.toNat) (h : vp_in a n) (hl : Nat.ble n 1000000 = true) : vp_in (nI j) n := by
  have hl := Nat.le_of_ble_eq_true hl
  rw [vp_in_iff] at h
  exact vp_in_nI (by omega) (by omega)
theorem rj_lt17 {a : Int32} (h : vp_in a 17) (h2 : ¬ a = 16) : vp_in a 16 := by
  obtain ⟨i, hi, rfl⟩ := vp_in_of h (rj_bl rfl)
  by_cases e : i = 16
  · subst e
    exact absurd rfl h2
  · exact vp_in_nI (by omega) (rj_bl rfl)
theorem rj_lt25 {a : Int32} (h : vp_in a 25) (h2 : ¬ a = 24) : vp_in a 24 := by
  obtain ⟨i, hi, rfl⟩ := vp_in_of h (rj_bl rfl)
  by_cases e : i = 24
  · subst e
    exact absurd rfl h2
  · exact vp_in_nI (by omega) (rj_bl rfl)
theorem hSX12_its : yX12_its.cls ≠ "java/lang/invoke/MethodHandle" ∧ yX12_its.cls ≠ "java/lang/invoke/VarHandle" ∧ (parseMethodDescriptor yX12_its.desc).map (fun d => d.parameters.length) = some 2 := by decide +kernel
theorem hVX12_its : yX12_its.cls = RX12 ∧ yX12_its.cls ≠ "java/lang/invoke/MethodHandle" ∧ yX12_its.cls ≠ "java/lang/invoke/VarHandle" ∧ (parseMethodDescriptor yX12_its.desc).map (fun d => d.parameters.length) = some 2 := by decide +kernel
theorem vX12_its_12 : ∀ w ∈ u_ws RX12 TX12 16, w ∈ wsX12_its := by decide +kernel
theorem kX12_its_9 : Cond.fieldLink RX12 9 (TX12 1).1 (TX12 1).2.1 (TX12 1).2.2.1 ∈ wsX12_its := by decide +kernel
def fX12_its (μ : rj_M) (a0 : Int32) (a1 : Int32) : Int32 := (μ.1 396 ((23 + (6 * a0)) + a1).toNatClampNeg)
set_option maxHeartbeats 40000000 in
set_option maxRecDepth 100000 in
theorem sX12_its {g : rj_G} {ω : rj_W} (hω : rj_ok ω) (μ : rj_M) (a0 : Int32) (a1 : Int32)  (hp_a0 : vp_in a0 16) (hp_a1 : vp_in a1 6)  : rj_Sp g yX12_its wsX12_its (rj_rm 0 0) [.ref (ω.2.2 395), .int a0, .int a1] ω μ (rj_D (.inl (some (.int (fX12_its μ a0 a1)))) ω μ) := by
  refine rj_of' (cc := cX12_its) (nL := 3) (ret := (some .int)) (own := RX12) (l0 := [(0, .ref (ω.2.2 395)), (1, .int a0), (2, .int a1)]) rfl (by decide +kernel) rfl (Nat.le_of_ble_eq_true rfl) rfl ?_
  refine rj_aload_n 0 dX12_its_0 rfl rfl ?_
  refine rj_getR (C0 := RX12) (T := TX12) (N := 16) (j := 1) (r := 396) dX12_its_1 rfl vX12_its_12 rfl (rj_lt hω (k := 395) rfl) (rj_sh hω ly_395) (by decide) kX12_its_9 rfl ?_
  refine rj_bipush (v := 23) dX12_its_4 rfl (by decide) ?_
  refine rj_bipush (v := 6) dX12_its_6 rfl (by decide) ?_
  refine rj_iload_n 1 dX12_its_8 rfl rfl ?_
  refine rj_imul dX12_its_9 rfl ?_
  refine rj_iadd dX12_its_10 rfl ?_
  refine rj_iload_n 2 dX12_its_11 rfl rfl ?_
  refine rj_iadd dX12_its_12 rfl ?_
  refine rj_iald dX12_its_13 rfl (rj_lt hω (k := 396) rfl) (rj_sh hω ly_396) (rj_vle (rj_vadd (N := 119) (rj_vadd (N := 114) (vp_in_nI (n := 23) (N := 24) (rj_bl rfl) (rj_bl rfl)) (rj_vmul (k := 6) (N := 91) hp_a0 rfl rfl) rfl rfl) hp_a1 rfl rfl) rfl) ?_
  exact rj_iret dX12_its_14 rfl (Nat.le_of_ble_eq_true rfl) (Nat.le_of_ble_eq_true rfl) ⟨(by unfold fX12_its; rfl), rfl, rfl⟩
theorem hSX12_isAct : yX12_isAct.cls ≠ "java/lang/invoke/MethodHandle" ∧ yX12_isAct.cls ≠ "java/lang/invoke/VarHandle" ∧ (parseMethodDescriptor yX12_isAct.desc).map (fun d => d.parameters.length) = some 1 := by decide +kernel
theorem hVX12_isAct : yX12_isAct.cls = RX12 ∧ yX12_isAct.cls ≠ "java/lang/invoke/MethodHandle" ∧ yX12_isAct.cls ≠ "java/lang/invoke/VarHandle" ∧ (parseMethodDescriptor yX12_isAct.desc).map (fun d => d.parameters.length) = some 1 := by decide +kernel
def fX12_isAct (μ : rj_M) (a0 : Int32) : Int32 := (if (fX12_in μ a0 0 15) = 0 then 0 else (if (fX12_its μ a0 0) = 1 then 1 else 0))
set_option maxHeartbeats 40000000 in
set_option maxRecDepth 100000 in
theorem sX12_isAct {g : rj_G} {ω : rj_W} (hω : rj_ok ω) (μ : rj_M) (a0 : Int32)   : rj_Sp g yX12_isAct wsX12_isAct (rj_rm 1 0) [.ref (ω.2.2 395), .int a0] ω μ (rj_D (.inl (some (.int (fX12_isAct μ a0)))) ω μ) := by
  refine rj_of' (cc := cX12_isAct) (nL := 2) (ret := (some .boolean)) (own := RX12) (l0 := [(0, .ref (ω.2.2 395)), (1, .int a0)]) rfl (by decide +kernel) rfl (Nat.le_of_ble_eq_true rfl) rfl ?_
  refine rj_iload_n 1 dX12_isAct_0 rfl rfl ?_
  refine rj_iconst (v := 0) dX12_isAct_1 rfl (by decide) ?_
  refine rj_bipush (v := 15) dX12_isAct_2 rfl (by decide) ?_
  refine rj_cS (rest := []) (sX12_in (g := g) (ω := ω) hω μ a0 0 15   ) gX12_isAct_X12_in rfl hSX12_in ⟨Nat.le_of_ble_eq_true rfl, Nat.le_of_ble_eq_true rfl⟩ dX12_isAct_4 rfl rfl rfl (Nat.le_of_ble_eq_true rfl) rfl (Nat.le_of_ble_eq_true rfl) rfl ?_
  refine rj_if_eq dX12_isAct_7 rfl rfl (fun h1 => ?_) (fun h1 => ?_)
  · refine rj_iconst (v := 0) dX12_isAct_24 rfl (by decide) ?_
    exact rj_zret dX12_isAct_25 rfl rfl (Nat.le_of_ble_eq_true rfl) (Nat.le_of_ble_eq_true rfl) ⟨(by unfold fX12_isAct; rw [if_pos h1]; try rfl), rfl, rfl⟩
  · refine rj_aload_n 0 dX12_isAct_10 rfl rfl ?_
    refine rj_iload_n 1 dX12_isAct_11 rfl rfl ?_
    refine rj_iconst (v := 0) dX12_isAct_12 rfl (by decide) ?_
    refine rj_cV (rest := []) (sX12_its (g := g) (ω := ω) hω μ a0 0  (rj_isin h1 rfl rfl) (vp_in_nI (n := 0) (rj_bl rfl) (rj_bl rfl)) ) gX12_isAct_X12_its (rj_lt hω (k := 395) rfl) (rj_sh hω ly_395) rfl rfl hVX12_its ⟨Nat.le_of_ble_eq_true rfl, Nat.le_of_ble_eq_true rfl⟩ dX12_isAct_13 rfl rfl rfl (Nat.le_of_ble_eq_true rfl) rfl (Nat.le_of_ble_eq_true rfl) rfl ?_
    refine rj_iconst (v := 1) dX12_isAct_16 rfl (by decide) ?_
    refine rj_icmp_ne dX12_isAct_17 rfl rfl (fun h2 => ?_) (fun h2 => ?_)
    · refine rj_iconst (v := 0) dX12_isAct_24 rfl (by decide) ?_
      exact rj_zret dX12_isAct_25 rfl rfl (Nat.le_of_ble_eq_true rfl) (Nat.le_of_ble_eq_true rfl) ⟨(by unfold fX12_isAct; rw [if_neg h1]; rw [if_neg h2]; try rfl), rfl, rfl⟩
    · refine rj_iconst (v := 1) dX12_isAct_20 rfl (by decide) ?_
      refine rj_goto dX12_isAct_21 rfl ?_
      exact rj_zret dX12_isAct_25 rfl rfl (Nat.le_of_ble_eq_true rfl) (Nat.le_of_ble_eq_true rfl) ⟨(by unfold fX12_isAct; rw [if_neg h1]; rw [if_pos h2]; try rfl), rfl, rfl⟩
theorem nX12_isAct (μ : rj_M) (a0 : Int32) : narrow .boolean (.int (fX12_isAct μ a0)) = .int (fX12_isAct μ a0) := by
  unfold fX12_isAct
  split
  · rfl
  · split
    · rfl
    · rfl
