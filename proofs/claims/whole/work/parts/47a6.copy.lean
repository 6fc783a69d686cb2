theorem hSX5_copyFrom : yX5_copyFrom.cls ≠ "java/lang/invoke/MethodHandle" ∧ yX5_copyFrom.cls ≠ "java/lang/invoke/VarHandle" ∧ (parseMethodDescriptor yX5_copyFrom.desc).map (fun d => d.parameters.length) = some 1 := by decide +kernel
theorem hVX5_copyFrom : yX5_copyFrom.cls = RX5 ∧ yX5_copyFrom.cls ≠ "java/lang/invoke/MethodHandle" ∧ yX5_copyFrom.cls ≠ "java/lang/invoke/VarHandle" ∧ (parseMethodDescriptor yX5_copyFrom.desc).map (fun d => d.parameters.length) = some 1 := by decide +kernel
theorem vX5_copyFrom_5 : ∀ w ∈ u_ws RX5 TX5 8, w ∈ wsX5_copyFrom := by decide +kernel
theorem kX5_copyFrom_10 : Cond.fieldLink RX5 10 (TX5 0).1 (TX5 0).2.1 (TX5 0).2.2.1 ∈ wsX5_copyFrom := by decide +kernel
theorem kX5_copyFrom_19 : Cond.fieldLink RX5 19 (TX5 1).1 (TX5 1).2.1 (TX5 1).2.2.1 ∈ wsX5_copyFrom := by decide +kernel
theorem kX5_copyFrom_26 : Cond.fieldLink RX5 26 (TX5 2).1 (TX5 2).2.1 (TX5 2).2.2.1 ∈ wsX5_copyFrom := by decide +kernel
theorem kX5_copyFrom_33 : Cond.fieldLink RX5 33 (TX5 3).1 (TX5 3).2.1 (TX5 3).2.2.1 ∈ wsX5_copyFrom := by decide +kernel
theorem kX5_copyFrom_40 : Cond.fieldLink RX5 40 (TX5 4).1 (TX5 4).2.1 (TX5 4).2.2.1 ∈ wsX5_copyFrom := by decide +kernel
theorem kX5_copyFrom_47 : Cond.fieldLink RX5 47 (TX5 5).1 (TX5 5).2.1 (TX5 5).2.2.1 ∈ wsX5_copyFrom := by decide +kernel
theorem kX5_copyFrom_54 : Cond.fieldLink RX5 54 (TX5 6).1 (TX5 6).2.1 (TX5 6).2.2.1 ∈ wsX5_copyFrom := by decide +kernel
theorem kX5_copyFrom_61 : Cond.fieldLink RX5 61 (TX5 7).1 (TX5 7).2.1 (TX5 7).2.2.1 ∈ wsX5_copyFrom := by decide +kernel
def mX5_copyFrom (μ : rj_M) (b : Nat) (o : Nat) : rj_M := (mX8_copyFrom (mX6_copyFrom (mX10_copyFrom (mX0_copyFrom (mX3_copyFrom (mX7_copyFrom (mX4_copyFrom (mX1_copyFrom μ b o) b o) b o) b o) b o) b o) b o) b o)
set_option maxHeartbeats 40000000 in
set_option maxRecDepth 100000 in
theorem sX5_copyFrom {g : rj_G} {ω : rj_W} (μ : rj_M) (b : Nat) (o : Nat)  (hB : rj_base ω b) (hO : rj_base ω o)  : rj_Sp g yX5_copyFrom wsX5_copyFrom (rj_rm 3 0) [.ref (ω.2.2 (b + 0)), .ref (ω.2.2 (o + 0))] ω μ (rj_D (.inl none) ω (mX5_copyFrom μ b o)) := by
  refine rj_of' (cc := cX5_copyFrom) (nL := 2) (ret := none) (own := RX5) (l0 := [(0, .ref (ω.2.2 (b + 0))), (1, .ref (ω.2.2 (o + 0)))]) rfl (by decide +kernel) rfl (Nat.le_of_ble_eq_true rfl) rfl ?_
  refine rj_aload_n 0 dX5_copyFrom_0 rfl rfl ?_
  refine rj_getR (C0 := RX5) (T := TX5) (N := 8) (j := 0) (r := (b + 1)) dX5_copyFrom_1 rfl vX5_copyFrom_5 rfl (hB.lt (o := 0) rfl) (hB.sh (o := 0) rfl (lm_0 _)) (by decide) kX5_copyFrom_10 rfl ?_
  refine rj_aload_n 1 dX5_copyFrom_4 rfl rfl ?_
  refine rj_getR (C0 := RX5) (T := TX5) (N := 8) (j := 0) (r := (o + 1)) dX5_copyFrom_5 rfl vX5_copyFrom_5 rfl (hO.lt (o := 0) rfl) (hO.sh (o := 0) rfl (lm_0 _)) (by decide) kX5_copyFrom_10 rfl ?_
  refine rj_cV (rest := []) (sX1_copyFrom (g := g) (ω := ω) μ b o  hB hO ) gX5_copyFrom_X1_copyFrom (hB.lt (o := 1) rfl) (hB.sh (o := 1) rfl (lm_1 _)) rfl rfl hVX1_copyFrom ⟨Nat.le_of_ble_eq_true rfl, Nat.le_of_ble_eq_true rfl⟩ dX5_copyFrom_8 rfl rfl rfl (Nat.le_of_ble_eq_true rfl) rfl (Nat.le_of_ble_eq_true rfl) rfl ?_
  refine rj_aload_n 0 dX5_copyFrom_11 rfl rfl ?_
  refine rj_getR (C0 := RX5) (T := TX5) (N := 8) (j := 1) (r := (b + 2)) dX5_copyFrom_12 rfl vX5_copyFrom_5 rfl (hB.lt (o := 0) rfl) (hB.sh (o := 0) rfl (lm_0 _)) (by decide) kX5_copyFrom_19 rfl ?_
  refine rj_aload_n 1 dX5_copyFrom_15 rfl rfl ?_
  refine rj_getR (C0 := RX5) (T := TX5) (N := 8) (j := 1) (r := (o + 2)) dX5_copyFrom_16 rfl vX5_copyFrom_5 rfl (hO.lt (o := 0) rfl) (hO.sh (o := 0) rfl (lm_0 _)) (by decide) kX5_copyFrom_19 rfl ?_
  refine rj_cV (rest := []) (sX4_copyFrom (g := g) (ω := ω) (mX1_copyFrom μ b o) b o  hB hO ) gX5_copyFrom_X4_copyFrom (hB.lt (o := 2) rfl) (hB.sh (o := 2) rfl (lm_2 _)) rfl rfl hVX4_copyFrom ⟨Nat.le_of_ble_eq_true rfl, Nat.le_of_ble_eq_true rfl⟩ dX5_copyFrom_19 rfl rfl rfl (Nat.le_of_ble_eq_true rfl) rfl (Nat.le_of_ble_eq_true rfl) rfl ?_
  refine rj_aload_n 0 dX5_copyFrom_22 rfl rfl ?_
  refine rj_getR (C0 := RX5) (T := TX5) (N := 8) (j := 2) (r := (b + 7)) dX5_copyFrom_23 rfl vX5_copyFrom_5 rfl (hB.lt (o := 0) rfl) (hB.sh (o := 0) rfl (lm_0 _)) (by decide) kX5_copyFrom_26 rfl ?_
  refine rj_aload_n 1 dX5_copyFrom_26 rfl rfl ?_
  refine rj_getR (C0 := RX5) (T := TX5) (N := 8) (j := 2) (r := (o + 7)) dX5_copyFrom_27 rfl vX5_copyFrom_5 rfl (hO.lt (o := 0) rfl) (hO.sh (o := 0) rfl (lm_0 _)) (by decide) kX5_copyFrom_26 rfl ?_
  refine rj_cV (rest := []) (sX7_copyFrom (g := g) (ω := ω) (mX4_copyFrom (mX1_copyFrom μ b o) b o) b o  hB hO ) gX5_copyFrom_X7_copyFrom (hB.lt (o := 7) rfl) (hB.sh (o := 7) rfl (lm_7 _)) rfl rfl hVX7_copyFrom ⟨Nat.le_of_ble_eq_true rfl, Nat.le_of_ble_eq_true rfl⟩ dX5_copyFrom_30 rfl rfl rfl (Nat.le_of_ble_eq_true rfl) rfl (Nat.le_of_ble_eq_true rfl) rfl ?_
  refine rj_aload_n 0 dX5_copyFrom_33 rfl rfl ?_
  refine rj_getR (C0 := RX5) (T := TX5) (N := 8) (j := 3) (r := (b + 16)) dX5_copyFrom_34 rfl vX5_copyFrom_5 rfl (hB.lt (o := 0) rfl) (hB.sh (o := 0) rfl (lm_0 _)) (by decide) kX5_copyFrom_33 rfl ?_
  refine rj_aload_n 1 dX5_copyFrom_37 rfl rfl ?_
  refine rj_getR (C0 := RX5) (T := TX5) (N := 8) (j := 3) (r := (o + 16)) dX5_copyFrom_38 rfl vX5_copyFrom_5 rfl (hO.lt (o := 0) rfl) (hO.sh (o := 0) rfl (lm_0 _)) (by decide) kX5_copyFrom_33 rfl ?_
  refine rj_cV (rest := []) (sX3_copyFrom (g := g) (ω := ω) (mX7_copyFrom (mX4_copyFrom (mX1_copyFrom μ b o) b o) b o) b o  hB hO ) gX5_copyFrom_X3_copyFrom (hB.lt (o := 16) rfl) (hB.sh (o := 16) rfl (lm_16 _)) rfl rfl hVX3_copyFrom ⟨Nat.le_of_ble_eq_true rfl, Nat.le_of_ble_eq_true rfl⟩ dX5_copyFrom_41 rfl rfl rfl (Nat.le_of_ble_eq_true rfl) rfl (Nat.le_of_ble_eq_true rfl) rfl ?_
  refine rj_aload_n 0 dX5_copyFrom_44 rfl rfl ?_
  refine rj_getR (C0 := RX5) (T := TX5) (N := 8) (j := 4) (r := (b + 20)) dX5_copyFrom_45 rfl vX5_copyFrom_5 rfl (hB.lt (o := 0) rfl) (hB.sh (o := 0) rfl (lm_0 _)) (by decide) kX5_copyFrom_40 rfl ?_
  refine rj_aload_n 1 dX5_copyFrom_48 rfl rfl ?_
  refine rj_getR (C0 := RX5) (T := TX5) (N := 8) (j := 4) (r := (o + 20)) dX5_copyFrom_49 rfl vX5_copyFrom_5 rfl (hO.lt (o := 0) rfl) (hO.sh (o := 0) rfl (lm_0 _)) (by decide) kX5_copyFrom_40 rfl ?_
  refine rj_cV (rest := []) (sX0_copyFrom (g := g) (ω := ω) (mX3_copyFrom (mX7_copyFrom (mX4_copyFrom (mX1_copyFrom μ b o) b o) b o) b o) b o  hB hO ) gX5_copyFrom_X0_copyFrom (hB.lt (o := 20) rfl) (hB.sh (o := 20) rfl (lm_20 _)) rfl rfl hVX0_copyFrom ⟨Nat.le_of_ble_eq_true rfl, Nat.le_of_ble_eq_true rfl⟩ dX5_copyFrom_52 rfl rfl rfl (Nat.le_of_ble_eq_true rfl) rfl (Nat.le_of_ble_eq_true rfl) rfl ?_
  refine rj_aload_n 0 dX5_copyFrom_55 rfl rfl ?_
  refine rj_getR (C0 := RX5) (T := TX5) (N := 8) (j := 5) (r := (b + 25)) dX5_copyFrom_56 rfl vX5_copyFrom_5 rfl (hB.lt (o := 0) rfl) (hB.sh (o := 0) rfl (lm_0 _)) (by decide) kX5_copyFrom_47 rfl ?_
  refine rj_aload_n 1 dX5_copyFrom_59 rfl rfl ?_
  refine rj_getR (C0 := RX5) (T := TX5) (N := 8) (j := 5) (r := (o + 25)) dX5_copyFrom_60 rfl vX5_copyFrom_5 rfl (hO.lt (o := 0) rfl) (hO.sh (o := 0) rfl (lm_0 _)) (by decide) kX5_copyFrom_47 rfl ?_
  refine rj_cV (rest := []) (sX10_copyFrom (g := g) (ω := ω) (mX0_copyFrom (mX3_copyFrom (mX7_copyFrom (mX4_copyFrom (mX1_copyFrom μ b o) b o) b o) b o) b o) b o  hB hO ) gX5_copyFrom_X10_copyFrom (hB.lt (o := 25) rfl) (hB.sh (o := 25) rfl (lm_25 _)) rfl rfl hVX10_copyFrom ⟨Nat.le_of_ble_eq_true rfl, Nat.le_of_ble_eq_true rfl⟩ dX5_copyFrom_63 rfl rfl rfl (Nat.le_of_ble_eq_true rfl) rfl (Nat.le_of_ble_eq_true rfl) rfl ?_
  refine rj_aload_n 0 dX5_copyFrom_66 rfl rfl ?_
  refine rj_getR (C0 := RX5) (T := TX5) (N := 8) (j := 6) (r := (b + 29)) dX5_copyFrom_67 rfl vX5_copyFrom_5 rfl (hB.lt (o := 0) rfl) (hB.sh (o := 0) rfl (lm_0 _)) (by decide) kX5_copyFrom_54 rfl ?_
  refine rj_aload_n 1 dX5_copyFrom_70 rfl rfl ?_
  refine rj_getR (C0 := RX5) (T := TX5) (N := 8) (j := 6) (r := (o + 29)) dX5_copyFrom_71 rfl vX5_copyFrom_5 rfl (hO.lt (o := 0) rfl) (hO.sh (o := 0) rfl (lm_0 _)) (by decide) kX5_copyFrom_54 rfl ?_
  refine rj_cV (rest := []) (sX6_copyFrom (g := g) (ω := ω) (mX10_copyFrom (mX0_copyFrom (mX3_copyFrom (mX7_copyFrom (mX4_copyFrom (mX1_copyFrom μ b o) b o) b o) b o) b o) b o) b o  hB hO ) gX5_copyFrom_X6_copyFrom (hB.lt (o := 29) rfl) (hB.sh (o := 29) rfl (lm_29 _)) rfl rfl hVX6_copyFrom ⟨Nat.le_of_ble_eq_true rfl, Nat.le_of_ble_eq_true rfl⟩ dX5_copyFrom_74 rfl rfl rfl (Nat.le_of_ble_eq_true rfl) rfl (Nat.le_of_ble_eq_true rfl) rfl ?_
  refine rj_aload_n 0 dX5_copyFrom_77 rfl rfl ?_
  refine rj_getR (C0 := RX5) (T := TX5) (N := 8) (j := 7) (r := (b + 38)) dX5_copyFrom_78 rfl vX5_copyFrom_5 rfl (hB.lt (o := 0) rfl) (hB.sh (o := 0) rfl (lm_0 _)) (by decide) kX5_copyFrom_61 rfl ?_
  refine rj_aload_n 1 dX5_copyFrom_81 rfl rfl ?_
  refine rj_getR (C0 := RX5) (T := TX5) (N := 8) (j := 7) (r := (o + 38)) dX5_copyFrom_82 rfl vX5_copyFrom_5 rfl (hO.lt (o := 0) rfl) (hO.sh (o := 0) rfl (lm_0 _)) (by decide) kX5_copyFrom_61 rfl ?_
  refine rj_cV (rest := []) (sX8_copyFrom (g := g) (ω := ω) (mX6_copyFrom (mX10_copyFrom (mX0_copyFrom (mX3_copyFrom (mX7_copyFrom (mX4_copyFrom (mX1_copyFrom μ b o) b o) b o) b o) b o) b o) b o) b o  hB hO ) gX5_copyFrom_X8_copyFrom (hB.lt (o := 38) rfl) (hB.sh (o := 38) rfl (lm_38 _)) rfl rfl hVX8_copyFrom ⟨Nat.le_of_ble_eq_true rfl, Nat.le_of_ble_eq_true rfl⟩ dX5_copyFrom_85 rfl rfl rfl (Nat.le_of_ble_eq_true rfl) rfl (Nat.le_of_ble_eq_true rfl) rfl ?_
  exact rj_vret dX5_copyFrom_88 rfl (Nat.le_of_ble_eq_true rfl) (Nat.le_of_ble_eq_true rfl) ⟨rfl, rfl, (by unfold mX5_copyFrom; rfl)⟩
