theorem hSX3_copyFrom : yX3_copyFrom.cls ≠ "java/lang/invoke/MethodHandle" ∧ yX3_copyFrom.cls ≠ "java/lang/invoke/VarHandle" ∧ (parseMethodDescriptor yX3_copyFrom.desc).map (fun d => d.parameters.length) = some 1 := by decide +kernel
theorem hVX3_copyFrom : yX3_copyFrom.cls = RX3 ∧ yX3_copyFrom.cls ≠ "java/lang/invoke/MethodHandle" ∧ yX3_copyFrom.cls ≠ "java/lang/invoke/VarHandle" ∧ (parseMethodDescriptor yX3_copyFrom.desc).map (fun d => d.parameters.length) = some 1 := by decide +kernel
theorem vX3_copyFrom_3 : ∀ w ∈ u_ws RX3 TX3 3, w ∈ wsX3_copyFrom := by decide +kernel
theorem kX3_copyFrom_9 : Cond.fieldLink RX3 9 (TX3 0).1 (TX3 0).2.1 (TX3 0).2.2.1 ∈ wsX3_copyFrom := by decide +kernel
theorem jX3_copyFrom_25_i : Cond.initialized yX11_copyRow.cls ∈ wsX3_copyFrom := by decide +kernel
theorem jX3_copyFrom_25_s : Cond.static yX11_copyRow ∈ wsX3_copyFrom := by decide +kernel
theorem jX3_copyFrom_25_n : (RX3, 25, yX11_copyRow, "Festivalgrounds") ∈ rj_nw := by decide +kernel
theorem kX3_copyFrom_15 : Cond.fieldLink RX3 15 (TX3 1).1 (TX3 1).2.1 (TX3 1).2.2.1 ∈ wsX3_copyFrom := by decide +kernel
theorem kX3_copyFrom_18 : Cond.fieldLink RX3 18 (TX3 2).1 (TX3 2).2.1 (TX3 2).2.2.1 ∈ wsX3_copyFrom := by decide +kernel
def mX3_copyFrom (μ : rj_M) (b : Nat) (o : Nat) : rj_M := (mX11_copyRow (mX11_copyRow (mX11_copyRow μ (o + 17) 3 (b + 17) 3) (o + 18) 12 (b + 18) 12) (o + 19) 4 (b + 19) 4)
set_option maxHeartbeats 40000000 in
set_option maxRecDepth 100000 in
theorem sX3_copyFrom {g : rj_G} {ω : rj_W} (μ : rj_M) (b : Nat) (o : Nat)  (hB : rj_base ω b) (hO : rj_base ω o)  : rj_Sp g yX3_copyFrom wsX3_copyFrom (rj_rm 2 0) [.ref (ω.2.2 (b + 16)), .ref (ω.2.2 (o + 16))] ω μ (rj_D (.inl none) ω (mX3_copyFrom μ b o)) := by
  refine rj_of' (cc := cX3_copyFrom) (nL := 2) (ret := none) (own := RX3) (l0 := [(0, .ref (ω.2.2 (b + 16))), (1, .ref (ω.2.2 (o + 16)))]) rfl (by decide +kernel) rfl (Nat.le_of_ble_eq_true rfl) rfl ?_
  refine rj_aload_n 1 dX3_copyFrom_0 rfl rfl ?_
  refine rj_getR (C0 := RX3) (T := TX3) (N := 3) (j := 0) (r := (o + 17)) dX3_copyFrom_1 rfl vX3_copyFrom_3 rfl (hO.lt (o := 16) rfl) (hO.sh (o := 16) rfl (lm_16 _)) (by decide) kX3_copyFrom_9 rfl ?_
  refine rj_aload_n 0 dX3_copyFrom_4 rfl rfl ?_
  refine rj_getR (C0 := RX3) (T := TX3) (N := 3) (j := 0) (r := (b + 17)) dX3_copyFrom_5 rfl vX3_copyFrom_3 rfl (hB.lt (o := 16) rfl) (hB.sh (o := 16) rfl (lm_16 _)) (by decide) kX3_copyFrom_9 rfl ?_
  refine rj_cSN (rest := []) (sX11_copyRow (g := g) (ω := ω) μ (o + 17) 3 (b + 17) 3 (hO.lt (o := 17) rfl) (hO.sh (o := 17) rfl (lm_17 _)) (rj_bl rfl) (hB.lt (o := 17) rfl) (hB.sh (o := 17) rfl (lm_17 _)) (rj_bl rfl)  ) ggX3_copyFrom_X11_copyRow jX3_copyFrom_25_i jX3_copyFrom_25_s jX3_copyFrom_25_n rfl hSX11_copyRow ⟨Nat.le_of_ble_eq_true rfl, Nat.le_of_ble_eq_true rfl⟩ dX3_copyFrom_8 rfl rfl rfl (Nat.le_of_ble_eq_true rfl) rfl (Nat.le_of_ble_eq_true rfl) rfl ?_
  refine rj_aload_n 1 dX3_copyFrom_11 rfl rfl ?_
  refine rj_getR (C0 := RX3) (T := TX3) (N := 3) (j := 1) (r := (o + 18)) dX3_copyFrom_12 rfl vX3_copyFrom_3 rfl (hO.lt (o := 16) rfl) (hO.sh (o := 16) rfl (lm_16 _)) (by decide) kX3_copyFrom_15 rfl ?_
  refine rj_aload_n 0 dX3_copyFrom_15 rfl rfl ?_
  refine rj_getR (C0 := RX3) (T := TX3) (N := 3) (j := 1) (r := (b + 18)) dX3_copyFrom_16 rfl vX3_copyFrom_3 rfl (hB.lt (o := 16) rfl) (hB.sh (o := 16) rfl (lm_16 _)) (by decide) kX3_copyFrom_15 rfl ?_
  refine rj_cSN (rest := []) (sX11_copyRow (g := g) (ω := ω) (mX11_copyRow μ (o + 17) 3 (b + 17) 3) (o + 18) 12 (b + 18) 12 (hO.lt (o := 18) rfl) (hO.sh (o := 18) rfl (lm_18 _)) (rj_bl rfl) (hB.lt (o := 18) rfl) (hB.sh (o := 18) rfl (lm_18 _)) (rj_bl rfl)  ) ggX3_copyFrom_X11_copyRow jX3_copyFrom_25_i jX3_copyFrom_25_s jX3_copyFrom_25_n rfl hSX11_copyRow ⟨Nat.le_of_ble_eq_true rfl, Nat.le_of_ble_eq_true rfl⟩ dX3_copyFrom_19 rfl rfl rfl (Nat.le_of_ble_eq_true rfl) rfl (Nat.le_of_ble_eq_true rfl) rfl ?_
  refine rj_aload_n 1 dX3_copyFrom_22 rfl rfl ?_
  refine rj_getR (C0 := RX3) (T := TX3) (N := 3) (j := 2) (r := (o + 19)) dX3_copyFrom_23 rfl vX3_copyFrom_3 rfl (hO.lt (o := 16) rfl) (hO.sh (o := 16) rfl (lm_16 _)) (by decide) kX3_copyFrom_18 rfl ?_
  refine rj_aload_n 0 dX3_copyFrom_26 rfl rfl ?_
  refine rj_getR (C0 := RX3) (T := TX3) (N := 3) (j := 2) (r := (b + 19)) dX3_copyFrom_27 rfl vX3_copyFrom_3 rfl (hB.lt (o := 16) rfl) (hB.sh (o := 16) rfl (lm_16 _)) (by decide) kX3_copyFrom_18 rfl ?_
  refine rj_cSN (rest := []) (sX11_copyRow (g := g) (ω := ω) (mX11_copyRow (mX11_copyRow μ (o + 17) 3 (b + 17) 3) (o + 18) 12 (b + 18) 12) (o + 19) 4 (b + 19) 4 (hO.lt (o := 19) rfl) (hO.sh (o := 19) rfl (lm_19 _)) (rj_bl rfl) (hB.lt (o := 19) rfl) (hB.sh (o := 19) rfl (lm_19 _)) (rj_bl rfl)  ) ggX3_copyFrom_X11_copyRow jX3_copyFrom_25_i jX3_copyFrom_25_s jX3_copyFrom_25_n rfl hSX11_copyRow ⟨Nat.le_of_ble_eq_true rfl, Nat.le_of_ble_eq_true rfl⟩ dX3_copyFrom_30 rfl rfl rfl (Nat.le_of_ble_eq_true rfl) rfl (Nat.le_of_ble_eq_true rfl) rfl ?_
  exact rj_vret dX3_copyFrom_33 rfl (Nat.le_of_ble_eq_true rfl) (Nat.le_of_ble_eq_true rfl) ⟨rfl, rfl, (by unfold mX3_copyFrom; rfl)⟩
theorem hSX10_copyFrom : yX10_copyFrom.cls ≠ "java/lang/invoke/MethodHandle" ∧ yX10_copyFrom.cls ≠ "java/lang/invoke/VarHandle" ∧ (parseMethodDescriptor yX10_copyFrom.desc).map (fun d => d.parameters.length) = some 1 := by decide +kernel
theorem hVX10_copyFrom : yX10_copyFrom.cls = RX10 ∧ yX10_copyFrom.cls ≠ "java/lang/invoke/MethodHandle" ∧ yX10_copyFrom.cls ≠ "java/lang/invoke/VarHandle" ∧ (parseMethodDescriptor yX10_copyFrom.desc).map (fun d => d.parameters.length) = some 1 := by decide +kernel
theorem vX10_copyFrom_10 : ∀ w ∈ u_ws RX10 TX10 4, w ∈ wsX10_copyFrom := by decide +kernel
theorem kX10_copyFrom_9 : Cond.fieldLink RX10 9 (TX10 0).1 (TX10 0).2.1 (TX10 0).2.2.1 ∈ wsX10_copyFrom := by decide +kernel
theorem jX10_copyFrom_25_i : Cond.initialized yX11_copyRow.cls ∈ wsX10_copyFrom := by decide +kernel
theorem jX10_copyFrom_25_s : Cond.static yX11_copyRow ∈ wsX10_copyFrom := by decide +kernel
theorem jX10_copyFrom_25_n : (RX10, 25, yX11_copyRow, "Festivalgrounds") ∈ rj_nw := by decide +kernel
theorem kX10_copyFrom_15 : Cond.fieldLink RX10 15 (TX10 1).1 (TX10 1).2.1 (TX10 1).2.2.1 ∈ wsX10_copyFrom := by decide +kernel
def mX10_copyFrom (μ : rj_M) (b : Nat) (o : Nat) : rj_M := (rj_pi (mX11_copyRow μ (o + 26) 24 (b + 26) 24) (b + 25) 1 ((mX11_copyRow μ (o + 26) 24 (b + 26) 24).1 (o + 25) 1))
set_option maxHeartbeats 40000000 in
set_option maxRecDepth 100000 in
theorem sX10_copyFrom {g : rj_G} {ω : rj_W} (μ : rj_M) (b : Nat) (o : Nat)  (hB : rj_base ω b) (hO : rj_base ω o)  : rj_Sp g yX10_copyFrom wsX10_copyFrom (rj_rm 2 0) [.ref (ω.2.2 (b + 25)), .ref (ω.2.2 (o + 25))] ω μ (rj_D (.inl none) ω (mX10_copyFrom μ b o)) := by
  refine rj_of' (cc := cX10_copyFrom) (nL := 2) (ret := none) (own := RX10) (l0 := [(0, .ref (ω.2.2 (b + 25))), (1, .ref (ω.2.2 (o + 25)))]) rfl (by decide +kernel) rfl (Nat.le_of_ble_eq_true rfl) rfl ?_
  refine rj_aload_n 1 dX10_copyFrom_0 rfl rfl ?_
  refine rj_getR (C0 := RX10) (T := TX10) (N := 4) (j := 0) (r := (o + 26)) dX10_copyFrom_1 rfl vX10_copyFrom_10 rfl (hO.lt (o := 25) rfl) (hO.sh (o := 25) rfl (lm_25 _)) (by decide) kX10_copyFrom_9 rfl ?_
  refine rj_aload_n 0 dX10_copyFrom_4 rfl rfl ?_
  refine rj_getR (C0 := RX10) (T := TX10) (N := 4) (j := 0) (r := (b + 26)) dX10_copyFrom_5 rfl vX10_copyFrom_10 rfl (hB.lt (o := 25) rfl) (hB.sh (o := 25) rfl (lm_25 _)) (by decide) kX10_copyFrom_9 rfl ?_
  refine rj_cSN (rest := []) (sX11_copyRow (g := g) (ω := ω) μ (o + 26) 24 (b + 26) 24 (hO.lt (o := 26) rfl) (hO.sh (o := 26) rfl (lm_26 _)) (rj_bl rfl) (hB.lt (o := 26) rfl) (hB.sh (o := 26) rfl (lm_26 _)) (rj_bl rfl)  ) ggX10_copyFrom_X11_copyRow jX10_copyFrom_25_i jX10_copyFrom_25_s jX10_copyFrom_25_n rfl hSX11_copyRow ⟨Nat.le_of_ble_eq_true rfl, Nat.le_of_ble_eq_true rfl⟩ dX10_copyFrom_8 rfl rfl rfl (Nat.le_of_ble_eq_true rfl) rfl (Nat.le_of_ble_eq_true rfl) rfl ?_
  refine rj_aload_n 0 dX10_copyFrom_11 rfl rfl ?_
  refine rj_aload_n 1 dX10_copyFrom_12 rfl rfl ?_
  refine rj_getI (C0 := RX10) (T := TX10) (N := 4) (j := 1) dX10_copyFrom_13 rfl vX10_copyFrom_10 rfl (hO.lt (o := 25) rfl) (hO.sh (o := 25) rfl (lm_25 _)) (by decide) kX10_copyFrom_15 rfl ?_
  refine rj_putI (C0 := RX10) (T := TX10) (N := 4) (j := 1) dX10_copyFrom_16 rfl vX10_copyFrom_10 rfl (hB.lt (o := 25) rfl) (hB.sh (o := 25) rfl (lm_25 _)) (by decide) kX10_copyFrom_15 tyX10 tyX10_ok nmX10 rfl rfl rfl rfl ?_
  exact rj_vret dX10_copyFrom_19 rfl (Nat.le_of_ble_eq_true rfl) (Nat.le_of_ble_eq_true rfl) ⟨rfl, rfl, (by unfold mX10_copyFrom; rfl)⟩
