theorem vX12_noF_12 : ∀ w ∈ u_ws RX12 TX12 16, w ∈ wsX12_no := by decide +kernel
theorem kX12_noF_39 : Cond.fieldLink RX12 39 (TX12 0).1 (TX12 0).2.1 (TX12 0).2.2.1 ∈ wsX12_no := by decide +kernel
def mX12_noF (μ : rj_M) (a1 : Int32) : rj_M := (rj_pi μ 395 0 a1)
set_option maxHeartbeats 40000000 in
set_option maxRecDepth 100000 in
theorem sX12_noF {g : rj_G} {ω : rj_W} (hω : rj_ok ω) (μ : rj_M) (a1 : Int32)   : rj_Sp g yX12_no wsX12_no (rj_rm 0 0) [.ref (ω.2.2 395), .int 0, .int a1] ω μ (rj_D (.inl (some (.int 1))) ω (mX12_noF μ a1)) := by
  refine rj_of' (cc := cX12_no) (nL := 3) (ret := (some .boolean)) (own := RX12) (l0 := [(0, .ref (ω.2.2 395)), (1, .int 0), (2, .int a1)]) rfl (by decide +kernel) rfl (Nat.le_of_ble_eq_true rfl) rfl ?_
  refine rj_iload_n 1 dX12_no_0 rfl rfl ?_
  refine rj_if_ne dX12_no_1 rfl rfl (fun h1 => ?_) (fun h1 => ?_)
  · exact absurd (by decide) h1
  · refine rj_aload_n 0 dX12_no_4 rfl rfl ?_
    refine rj_iload_n 2 dX12_no_5 rfl rfl ?_
    refine rj_putI (C0 := RX12) (T := TX12) (N := 16) (j := 0) dX12_no_6 rfl vX12_noF_12 rfl (rj_lt hω (k := 395) rfl) (rj_sh hω ly_395) (by decide) kX12_noF_39 tyX12 tyX12_ok nmX12 rfl rfl rfl rfl ?_
    refine rj_iload_n 1 dX12_no_9 rfl rfl ?_
    refine rj_if_ne dX12_no_10 rfl rfl (fun h2 => ?_) (fun h2 => ?_)
    · exact absurd (by decide) h2
    · refine rj_iconst (v := 1) dX12_no_13 rfl (by decide) ?_
      refine rj_goto dX12_no_14 rfl ?_
      exact rj_zret dX12_no_18 rfl rfl (Nat.le_of_ble_eq_true rfl) (Nat.le_of_ble_eq_true rfl) ⟨rfl, rfl, (by unfold mX12_noF; rfl)⟩
theorem hSX12_no : yX12_no.cls ≠ "java/lang/invoke/MethodHandle" ∧ yX12_no.cls ≠ "java/lang/invoke/VarHandle" ∧ (parseMethodDescriptor yX12_no.desc).map (fun d => d.parameters.length) = some 2 := by decide +kernel
theorem hVX12_no : yX12_no.cls = RX12 ∧ yX12_no.cls ≠ "java/lang/invoke/MethodHandle" ∧ yX12_no.cls ≠ "java/lang/invoke/VarHandle" ∧ (parseMethodDescriptor yX12_no.desc).map (fun d => d.parameters.length) = some 2 := by decide +kernel
theorem vX12_no_12 : ∀ w ∈ u_ws RX12 TX12 16, w ∈ wsX12_no := by decide +kernel
theorem kX12_no_39 : Cond.fieldLink RX12 39 (TX12 0).1 (TX12 0).2.1 (TX12 0).2.2.1 ∈ wsX12_no := by decide +kernel
def fX12_no (μ : rj_M) (a0 : Int32) (a1 : Int32) : Int32 := (if a0 = 0 then 1 else 0)
def mX12_no (μ : rj_M) (a0 : Int32) (a1 : Int32) : rj_M := (if a0 = 0 then (rj_pi μ 395 0 a1) else μ)
set_option maxHeartbeats 40000000 in
set_option maxRecDepth 100000 in
theorem sX12_no {g : rj_G} {ω : rj_W} (hω : rj_ok ω) (μ : rj_M) (a0 : Int32) (a1 : Int32)   : rj_Sp g yX12_no wsX12_no (rj_rm 0 0) [.ref (ω.2.2 395), .int a0, .int a1] ω μ (rj_D (.inl (some (.int (fX12_no μ a0 a1)))) ω (mX12_no μ a0 a1)) := by
  refine rj_of' (cc := cX12_no) (nL := 3) (ret := (some .boolean)) (own := RX12) (l0 := [(0, .ref (ω.2.2 395)), (1, .int a0), (2, .int a1)]) rfl (by decide +kernel) rfl (Nat.le_of_ble_eq_true rfl) rfl ?_
  refine rj_iload_n 1 dX12_no_0 rfl rfl ?_
  refine rj_if_ne dX12_no_1 rfl rfl (fun h1 => ?_) (fun h1 => ?_)
  · refine rj_iload_n 1 dX12_no_9 rfl rfl ?_
    refine rj_if_ne dX12_no_10 rfl rfl (fun h2 => ?_) (fun h2 => ?_)
    · refine rj_iconst (v := 0) dX12_no_17 rfl (by decide) ?_
      exact rj_zret dX12_no_18 rfl rfl (Nat.le_of_ble_eq_true rfl) (Nat.le_of_ble_eq_true rfl) ⟨(by unfold fX12_no; rw [if_neg h1]; try rfl), rfl, (by unfold mX12_no; rw [if_neg h1]; try rfl)⟩
    · exact absurd h2 h1
  · refine rj_aload_n 0 dX12_no_4 rfl rfl ?_
    refine rj_iload_n 2 dX12_no_5 rfl rfl ?_
    refine rj_putI (C0 := RX12) (T := TX12) (N := 16) (j := 0) dX12_no_6 rfl vX12_no_12 rfl (rj_lt hω (k := 395) rfl) (rj_sh hω ly_395) (by decide) kX12_no_39 tyX12 tyX12_ok nmX12 rfl rfl rfl rfl ?_
    refine rj_iload_n 1 dX12_no_9 rfl rfl ?_
    refine rj_if_ne dX12_no_10 rfl rfl (fun h3 => ?_) (fun h3 => ?_)
    · exact absurd h1 h3
    · refine rj_iconst (v := 1) dX12_no_13 rfl (by decide) ?_
      refine rj_goto dX12_no_14 rfl ?_
      exact rj_zret dX12_no_18 rfl rfl (Nat.le_of_ble_eq_true rfl) (Nat.le_of_ble_eq_true rfl) ⟨(by unfold fX12_no; rw [if_pos h1]; try rfl), rfl, (by unfold mX12_no; rw [if_pos h1]; try rfl)⟩
theorem nX12_no (μ : rj_M) (a0 : Int32) (a1 : Int32) : narrow .boolean (.int (fX12_no μ a0 a1)) = .int (fX12_no μ a0 a1) := by
  unfold fX12_no
  split
  · rfl
  · rfl
