theorem vX1_startOnB_1 : ∀ w ∈ u_ws RX1 TX1 3, w ∈ wsX1_startOn := by decide +kernel
theorem kX1_startOnB_7 : Cond.fieldLink RX1 7 (TX1 0).1 (TX1 0).2.1 (TX1 0).2.2.1 ∈ wsX1_startOn := by decide +kernel
theorem kX1_startOnB_13 : Cond.fieldLink RX1 13 (TX1 1).1 (TX1 1).2.1 (TX1 1).2.2.1 ∈ wsX1_startOn := by decide +kernel
theorem kX1_startOnB_16 : Cond.fieldLink RX1 16 (TX1 2).1 (TX1 2).2.1 (TX1 2).2.2.1 ∈ wsX1_startOn := by decide +kernel
def mX1_startOnB (μ : rj_M) (a0 : Int32) (a1 : Int32) (a2 : Int32) (b : Nat) : rj_M := (rj_pi (rj_pi (rj_pi μ (b + 1) 0 a0) (b + 1) 1 a1) (b + 1) 2 a2)
set_option maxHeartbeats 40000000 in
set_option maxRecDepth 100000 in
theorem sX1_startOnB {g : rj_G} {ω : rj_W} (μ : rj_M) (a0 : Int32) (a1 : Int32) (a2 : Int32) (b : Nat)  (hB : rj_base ω b)  : rj_Sp g yX1_startOn wsX1_startOn (rj_rm 0 0) [.ref (ω.2.2 (b + 1)), .int a0, .int a1, .int a2] ω μ (rj_D (.inl none) ω (mX1_startOnB μ a0 a1 a2 b)) := by
  refine rj_of' (cc := cX1_startOn) (nL := 4) (ret := none) (own := RX1) (l0 := [(0, .ref (ω.2.2 (b + 1))), (1, .int a0), (2, .int a1), (3, .int a2)]) rfl (by decide +kernel) rfl (Nat.le_of_ble_eq_true rfl) rfl ?_
  refine rj_aload_n 0 dX1_startOn_0 rfl rfl ?_
  refine rj_iload_n 1 dX1_startOn_1 rfl rfl ?_
  refine rj_putI (C0 := RX1) (T := TX1) (N := 3) (j := 0) dX1_startOn_2 rfl vX1_startOnB_1 rfl (hB.lt (o := 1) rfl) (hB.sh (o := 1) rfl (lm_1 _)) (by decide) kX1_startOnB_7 tyX1 tyX1_ok nmX1 rfl rfl rfl rfl ?_
  refine rj_aload_n 0 dX1_startOn_5 rfl rfl ?_
  refine rj_iload_n 2 dX1_startOn_6 rfl rfl ?_
  refine rj_putI (C0 := RX1) (T := TX1) (N := 3) (j := 1) dX1_startOn_7 rfl vX1_startOnB_1 rfl (hB.lt (o := 1) rfl) (hB.sh (o := 1) rfl (lm_1 _)) (by decide) kX1_startOnB_13 tyX1 tyX1_ok nmX1 rfl rfl rfl rfl ?_
  refine rj_aload_n 0 dX1_startOn_10 rfl rfl ?_
  refine rj_iload_n 3 dX1_startOn_11 rfl rfl ?_
  refine rj_putI (C0 := RX1) (T := TX1) (N := 3) (j := 2) dX1_startOn_12 rfl vX1_startOnB_1 rfl (hB.lt (o := 1) rfl) (hB.sh (o := 1) rfl (lm_1 _)) (by decide) kX1_startOnB_16 tyX1 tyX1_ok nmX1 rfl rfl rfl rfl ?_
  exact rj_vret dX1_startOn_15 rfl (Nat.le_of_ble_eq_true rfl) (Nat.le_of_ble_eq_true rfl) ⟨rfl, rfl, (by unfold mX1_startOnB; rfl)⟩
theorem hSX1_copyFrom : yX1_copyFrom.cls ≠ "java/lang/invoke/MethodHandle" ∧ yX1_copyFrom.cls ≠ "java/lang/invoke/VarHandle" ∧ (parseMethodDescriptor yX1_copyFrom.desc).map (fun d => d.parameters.length) = some 1 := by decide +kernel
theorem hVX1_copyFrom : yX1_copyFrom.cls = RX1 ∧ yX1_copyFrom.cls ≠ "java/lang/invoke/MethodHandle" ∧ yX1_copyFrom.cls ≠ "java/lang/invoke/VarHandle" ∧ (parseMethodDescriptor yX1_copyFrom.desc).map (fun d => d.parameters.length) = some 1 := by decide +kernel
theorem vX1_copyFrom_1 : ∀ w ∈ u_ws RX1 TX1 3, w ∈ wsX1_copyFrom := by decide +kernel
theorem kX1_copyFrom_7 : Cond.fieldLink RX1 7 (TX1 0).1 (TX1 0).2.1 (TX1 0).2.2.1 ∈ wsX1_copyFrom := by decide +kernel
theorem kX1_copyFrom_13 : Cond.fieldLink RX1 13 (TX1 1).1 (TX1 1).2.1 (TX1 1).2.2.1 ∈ wsX1_copyFrom := by decide +kernel
theorem kX1_copyFrom_16 : Cond.fieldLink RX1 16 (TX1 2).1 (TX1 2).2.1 (TX1 2).2.2.1 ∈ wsX1_copyFrom := by decide +kernel
def mX1_copyFrom (μ : rj_M) (b : Nat) (o : Nat) : rj_M := (mX1_startOnB μ (μ.1 (o + 1) 0) (μ.1 (o + 1) 1) (μ.1 (o + 1) 2) b)
set_option maxHeartbeats 40000000 in
set_option maxRecDepth 100000 in
theorem sX1_copyFrom {g : rj_G} {ω : rj_W} (μ : rj_M) (b : Nat) (o : Nat)  (hB : rj_base ω b) (hO : rj_base ω o)  : rj_Sp g yX1_copyFrom wsX1_copyFrom (rj_rm 1 0) [.ref (ω.2.2 (b + 1)), .ref (ω.2.2 (o + 1))] ω μ (rj_D (.inl none) ω (mX1_copyFrom μ b o)) := by
  refine rj_of' (cc := cX1_copyFrom) (nL := 2) (ret := none) (own := RX1) (l0 := [(0, .ref (ω.2.2 (b + 1))), (1, .ref (ω.2.2 (o + 1)))]) rfl (by decide +kernel) rfl (Nat.le_of_ble_eq_true rfl) rfl ?_
  refine rj_aload_n 0 dX1_copyFrom_0 rfl rfl ?_
  refine rj_aload_n 1 dX1_copyFrom_1 rfl rfl ?_
  refine rj_getI (C0 := RX1) (T := TX1) (N := 3) (j := 0) dX1_copyFrom_2 rfl vX1_copyFrom_1 rfl (hO.lt (o := 1) rfl) (hO.sh (o := 1) rfl (lm_1 _)) (by decide) kX1_copyFrom_7 rfl ?_
  refine rj_aload_n 1 dX1_copyFrom_5 rfl rfl ?_
  refine rj_getI (C0 := RX1) (T := TX1) (N := 3) (j := 1) dX1_copyFrom_6 rfl vX1_copyFrom_1 rfl (hO.lt (o := 1) rfl) (hO.sh (o := 1) rfl (lm_1 _)) (by decide) kX1_copyFrom_13 rfl ?_
  refine rj_aload_n 1 dX1_copyFrom_9 rfl rfl ?_
  refine rj_getI (C0 := RX1) (T := TX1) (N := 3) (j := 2) dX1_copyFrom_10 rfl vX1_copyFrom_1 rfl (hO.lt (o := 1) rfl) (hO.sh (o := 1) rfl (lm_1 _)) (by decide) kX1_copyFrom_16 rfl ?_
  refine rj_cV (rest := []) (sX1_startOnB (g := g) (ω := ω) μ (μ.1 (o + 1) 0) (μ.1 (o + 1) 1) (μ.1 (o + 1) 2) b  hB ) gX1_copyFrom_X1_startOn (hB.lt (o := 1) rfl) (hB.sh (o := 1) rfl (lm_1 _)) rfl rfl hVX1_startOn ⟨Nat.le_of_ble_eq_true rfl, Nat.le_of_ble_eq_true rfl⟩ dX1_copyFrom_13 rfl rfl rfl (Nat.le_of_ble_eq_true rfl) rfl (Nat.le_of_ble_eq_true rfl) rfl ?_
  exact rj_vret dX1_copyFrom_16 rfl (Nat.le_of_ble_eq_true rfl) (Nat.le_of_ble_eq_true rfl) ⟨rfl, rfl, (by unfold mX1_copyFrom; rfl)⟩
