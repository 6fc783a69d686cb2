theorem hSX0_copyFrom : yX0_copyFrom.cls ≠ "java/lang/invoke/MethodHandle" ∧ yX0_copyFrom.cls ≠ "java/lang/invoke/VarHandle" ∧ (parseMethodDescriptor yX0_copyFrom.desc).map (fun d => d.parameters.length) = some 1 := by decide +kernel
theorem hVX0_copyFrom : yX0_copyFrom.cls = RX0 ∧ yX0_copyFrom.cls ≠ "java/lang/invoke/MethodHandle" ∧ yX0_copyFrom.cls ≠ "java/lang/invoke/VarHandle" ∧ (parseMethodDescriptor yX0_copyFrom.desc).map (fun d => d.parameters.length) = some 1 := by decide +kernel
theorem vX0_copyFrom_0 : ∀ w ∈ u_ws RX0 TX0 7, w ∈ wsX0_copyFrom := by decide +kernel
theorem kX0_copyFrom_9 : Cond.fieldLink RX0 9 (TX0 0).1 (TX0 0).2.1 (TX0 0).2.2.1 ∈ wsX0_copyFrom := by decide +kernel
theorem jX0_copyFrom_38_i : Cond.initialized yX11_copyRow.cls ∈ wsX0_copyFrom := by decide +kernel
theorem jX0_copyFrom_38_s : Cond.static yX11_copyRow ∈ wsX0_copyFrom := by decide +kernel
theorem jX0_copyFrom_38_n : (RX0, 38, yX11_copyRow, "Festivalgrounds") ∈ rj_nw := by decide +kernel
theorem kX0_copyFrom_15 : Cond.fieldLink RX0 15 (TX0 1).1 (TX0 1).2.1 (TX0 1).2.2.1 ∈ wsX0_copyFrom := by decide +kernel
theorem kX0_copyFrom_19 : Cond.fieldLink RX0 19 (TX0 2).1 (TX0 2).2.1 (TX0 2).2.2.1 ∈ wsX0_copyFrom := by decide +kernel
theorem kX0_copyFrom_22 : Cond.fieldLink RX0 22 (TX0 3).1 (TX0 3).2.1 (TX0 3).2.2.1 ∈ wsX0_copyFrom := by decide +kernel
theorem kX0_copyFrom_28 : Cond.fieldLink RX0 28 (TX0 5).1 (TX0 5).2.1 (TX0 5).2.2.1 ∈ wsX0_copyFrom := by decide +kernel
theorem kX0_copyFrom_31 : Cond.fieldLink RX0 31 (TX0 6).1 (TX0 6).2.1 (TX0 6).2.2.1 ∈ wsX0_copyFrom := by decide +kernel
def mX0_copyFrom (μ : rj_M) (b : Nat) (o : Nat) : rj_M := (rj_pi (rj_pi (mX11_copyRow (mX11_copyRow (rj_pi (mX11_copyRow μ (o + 21) 12 (b + 21) 12) (b + 20) 1 ((mX11_copyRow μ (o + 21) 12 (b + 21) 12).1 (o + 20) 1)) (o + 22) 12 (b + 22) 12) (o + 23) 3 (b + 23) 3) (b + 20) 5 ((mX11_copyRow (mX11_copyRow (rj_pi (mX11_copyRow μ (o + 21) 12 (b + 21) 12) (b + 20) 1 ((mX11_copyRow μ (o + 21) 12 (b + 21) 12).1 (o + 20) 1)) (o + 22) 12 (b + 22) 12) (o + 23) 3 (b + 23) 3).1 (o + 20) 5)) (b + 20) 6 ((rj_pi (mX11_copyRow (mX11_copyRow (rj_pi (mX11_copyRow μ (o + 21) 12 (b + 21) 12) (b + 20) 1 ((mX11_copyRow μ (o + 21) 12 (b + 21) 12).1 (o + 20) 1)) (o + 22) 12 (b + 22) 12) (o + 23) 3 (b + 23) 3) (b + 20) 5 ((mX11_copyRow (mX11_copyRow (rj_pi (mX11_copyRow μ (o + 21) 12 (b + 21) 12) (b + 20) 1 ((mX11_copyRow μ (o + 21) 12 (b + 21) 12).1 (o + 20) 1)) (o + 22) 12 (b + 22) 12) (o + 23) 3 (b + 23) 3).1 (o + 20) 5)).1 (o + 20) 6))
set_option maxHeartbeats 40000000 in
set_option maxRecDepth 100000 in
theorem sX0_copyFrom {g : rj_G} {ω : rj_W} (μ : rj_M) (b : Nat) (o : Nat)  (hB : rj_base ω b) (hO : rj_base ω o)  : rj_Sp g yX0_copyFrom wsX0_copyFrom (rj_rm 2 0) [.ref (ω.2.2 (b + 20)), .ref (ω.2.2 (o + 20))] ω μ (rj_D (.inl none) ω (mX0_copyFrom μ b o)) := by
  refine rj_of' (cc := cX0_copyFrom) (nL := 2) (ret := none) (own := RX0) (l0 := [(0, .ref (ω.2.2 (b + 20))), (1, .ref (ω.2.2 (o + 20)))]) rfl (by decide +kernel) rfl (Nat.le_of_ble_eq_true rfl) rfl ?_
  refine rj_aload_n 1 dX0_copyFrom_0 rfl rfl ?_
  refine rj_getR (C0 := RX0) (T := TX0) (N := 7) (j := 0) (r := (o + 21)) dX0_copyFrom_1 rfl vX0_copyFrom_0 rfl (hO.lt (o := 20) rfl) (hO.sh (o := 20) rfl (lm_20 _)) (by decide) kX0_copyFrom_9 rfl ?_
  refine rj_aload_n 0 dX0_copyFrom_4 rfl rfl ?_
  refine rj_getR (C0 := RX0) (T := TX0) (N := 7) (j := 0) (r := (b + 21)) dX0_copyFrom_5 rfl vX0_copyFrom_0 rfl (hB.lt (o := 20) rfl) (hB.sh (o := 20) rfl (lm_20 _)) (by decide) kX0_copyFrom_9 rfl ?_
  refine rj_cSN (rest := []) (sX11_copyRow (g := g) (ω := ω) μ (o + 21) 12 (b + 21) 12 (hO.lt (o := 21) rfl) (hO.sh (o := 21) rfl (lm_21 _)) (rj_bl rfl) (hB.lt (o := 21) rfl) (hB.sh (o := 21) rfl (lm_21 _)) (rj_bl rfl)  ) ggX0_copyFrom_X11_copyRow jX0_copyFrom_38_i jX0_copyFrom_38_s jX0_copyFrom_38_n rfl hSX11_copyRow ⟨Nat.le_of_ble_eq_true rfl, Nat.le_of_ble_eq_true rfl⟩ dX0_copyFrom_8 rfl rfl rfl (Nat.le_of_ble_eq_true rfl) rfl (Nat.le_of_ble_eq_true rfl) rfl ?_
  refine rj_aload_n 0 dX0_copyFrom_11 rfl rfl ?_
  refine rj_aload_n 1 dX0_copyFrom_12 rfl rfl ?_
  refine rj_getI (C0 := RX0) (T := TX0) (N := 7) (j := 1) dX0_copyFrom_13 rfl vX0_copyFrom_0 rfl (hO.lt (o := 20) rfl) (hO.sh (o := 20) rfl (lm_20 _)) (by decide) kX0_copyFrom_15 rfl ?_
  refine rj_putI (C0 := RX0) (T := TX0) (N := 7) (j := 1) dX0_copyFrom_16 rfl vX0_copyFrom_0 rfl (hB.lt (o := 20) rfl) (hB.sh (o := 20) rfl (lm_20 _)) (by decide) kX0_copyFrom_15 tyX0 tyX0_ok nmX0 rfl rfl rfl rfl ?_
  refine rj_aload_n 1 dX0_copyFrom_19 rfl rfl ?_
  refine rj_getR (C0 := RX0) (T := TX0) (N := 7) (j := 2) (r := (o + 22)) dX0_copyFrom_20 rfl vX0_copyFrom_0 rfl (hO.lt (o := 20) rfl) (hO.sh (o := 20) rfl (lm_20 _)) (by decide) kX0_copyFrom_19 rfl ?_
  refine rj_aload_n 0 dX0_copyFrom_23 rfl rfl ?_
  refine rj_getR (C0 := RX0) (T := TX0) (N := 7) (j := 2) (r := (b + 22)) dX0_copyFrom_24 rfl vX0_copyFrom_0 rfl (hB.lt (o := 20) rfl) (hB.sh (o := 20) rfl (lm_20 _)) (by decide) kX0_copyFrom_19 rfl ?_
  refine rj_cSN (rest := []) (sX11_copyRow (g := g) (ω := ω) (rj_pi (mX11_copyRow μ (o + 21) 12 (b + 21) 12) (b + 20) 1 ((mX11_copyRow μ (o + 21) 12 (b + 21) 12).1 (o + 20) 1)) (o + 22) 12 (b + 22) 12 (hO.lt (o := 22) rfl) (hO.sh (o := 22) rfl (lm_22 _)) (rj_bl rfl) (hB.lt (o := 22) rfl) (hB.sh (o := 22) rfl (lm_22 _)) (rj_bl rfl)  ) ggX0_copyFrom_X11_copyRow jX0_copyFrom_38_i jX0_copyFrom_38_s jX0_copyFrom_38_n rfl hSX11_copyRow ⟨Nat.le_of_ble_eq_true rfl, Nat.le_of_ble_eq_true rfl⟩ dX0_copyFrom_27 rfl rfl rfl (Nat.le_of_ble_eq_true rfl) rfl (Nat.le_of_ble_eq_true rfl) rfl ?_
  refine rj_aload_n 1 dX0_copyFrom_30 rfl rfl ?_
  refine rj_getR (C0 := RX0) (T := TX0) (N := 7) (j := 3) (r := (o + 23)) dX0_copyFrom_31 rfl vX0_copyFrom_0 rfl (hO.lt (o := 20) rfl) (hO.sh (o := 20) rfl (lm_20 _)) (by decide) kX0_copyFrom_22 rfl ?_
  refine rj_aload_n 0 dX0_copyFrom_34 rfl rfl ?_
  refine rj_getR (C0 := RX0) (T := TX0) (N := 7) (j := 3) (r := (b + 23)) dX0_copyFrom_35 rfl vX0_copyFrom_0 rfl (hB.lt (o := 20) rfl) (hB.sh (o := 20) rfl (lm_20 _)) (by decide) kX0_copyFrom_22 rfl ?_
  refine rj_cSN (rest := []) (sX11_copyRow (g := g) (ω := ω) (mX11_copyRow (rj_pi (mX11_copyRow μ (o + 21) 12 (b + 21) 12) (b + 20) 1 ((mX11_copyRow μ (o + 21) 12 (b + 21) 12).1 (o + 20) 1)) (o + 22) 12 (b + 22) 12) (o + 23) 3 (b + 23) 3 (hO.lt (o := 23) rfl) (hO.sh (o := 23) rfl (lm_23 _)) (rj_bl rfl) (hB.lt (o := 23) rfl) (hB.sh (o := 23) rfl (lm_23 _)) (rj_bl rfl)  ) ggX0_copyFrom_X11_copyRow jX0_copyFrom_38_i jX0_copyFrom_38_s jX0_copyFrom_38_n rfl hSX11_copyRow ⟨Nat.le_of_ble_eq_true rfl, Nat.le_of_ble_eq_true rfl⟩ dX0_copyFrom_38 rfl rfl rfl (Nat.le_of_ble_eq_true rfl) rfl (Nat.le_of_ble_eq_true rfl) rfl ?_
  refine rj_aload_n 0 dX0_copyFrom_41 rfl rfl ?_
  refine rj_aload_n 1 dX0_copyFrom_42 rfl rfl ?_
  refine rj_getI (C0 := RX0) (T := TX0) (N := 7) (j := 5) dX0_copyFrom_43 rfl vX0_copyFrom_0 rfl (hO.lt (o := 20) rfl) (hO.sh (o := 20) rfl (lm_20 _)) (by decide) kX0_copyFrom_28 rfl ?_
  refine rj_putI (C0 := RX0) (T := TX0) (N := 7) (j := 5) dX0_copyFrom_46 rfl vX0_copyFrom_0 rfl (hB.lt (o := 20) rfl) (hB.sh (o := 20) rfl (lm_20 _)) (by decide) kX0_copyFrom_28 tyX0 tyX0_ok nmX0 rfl rfl rfl rfl ?_
  refine rj_aload_n 0 dX0_copyFrom_49 rfl rfl ?_
  refine rj_aload_n 1 dX0_copyFrom_50 rfl rfl ?_
  refine rj_getI (C0 := RX0) (T := TX0) (N := 7) (j := 6) dX0_copyFrom_51 rfl vX0_copyFrom_0 rfl (hO.lt (o := 20) rfl) (hO.sh (o := 20) rfl (lm_20 _)) (by decide) kX0_copyFrom_31 rfl ?_
  refine rj_putI (C0 := RX0) (T := TX0) (N := 7) (j := 6) dX0_copyFrom_54 rfl vX0_copyFrom_0 rfl (hB.lt (o := 20) rfl) (hB.sh (o := 20) rfl (lm_20 _)) (by decide) kX0_copyFrom_31 tyX0 tyX0_ok nmX0 rfl rfl rfl rfl ?_
  exact rj_vret dX0_copyFrom_57 rfl (Nat.le_of_ble_eq_true rfl) (Nat.le_of_ble_eq_true rfl) ⟨rfl, rfl, (by unfold mX0_copyFrom; rfl)⟩
theorem hSX6_copyFrom : yX6_copyFrom.cls ≠ "java/lang/invoke/MethodHandle" ∧ yX6_copyFrom.cls ≠ "java/lang/invoke/VarHandle" ∧ (parseMethodDescriptor yX6_copyFrom.desc).map (fun d => d.parameters.length) = some 1 := by decide +kernel
theorem hVX6_copyFrom : yX6_copyFrom.cls = RX6 ∧ yX6_copyFrom.cls ≠ "java/lang/invoke/MethodHandle" ∧ yX6_copyFrom.cls ≠ "java/lang/invoke/VarHandle" ∧ (parseMethodDescriptor yX6_copyFrom.desc).map (fun d => d.parameters.length) = some 1 := by decide +kernel
theorem vX6_copyFrom_6 : ∀ w ∈ u_ws RX6 TX6 8, w ∈ wsX6_copyFrom := by decide +kernel
theorem kX6_copyFrom_9 : Cond.fieldLink RX6 9 (TX6 0).1 (TX6 0).2.1 (TX6 0).2.2.1 ∈ wsX6_copyFrom := by decide +kernel
theorem jX6_copyFrom_36_i : Cond.initialized yX11_copyRow.cls ∈ wsX6_copyFrom := by decide +kernel
theorem jX6_copyFrom_36_s : Cond.static yX11_copyRow ∈ wsX6_copyFrom := by decide +kernel
theorem jX6_copyFrom_36_n : (RX6, 36, yX11_copyRow, "Festivalgrounds") ∈ rj_nw := by decide +kernel
theorem kX6_copyFrom_15 : Cond.fieldLink RX6 15 (TX6 1).1 (TX6 1).2.1 (TX6 1).2.2.1 ∈ wsX6_copyFrom := by decide +kernel
theorem kX6_copyFrom_18 : Cond.fieldLink RX6 18 (TX6 2).1 (TX6 2).2.1 (TX6 2).2.2.1 ∈ wsX6_copyFrom := by decide +kernel
theorem kX6_copyFrom_21 : Cond.fieldLink RX6 21 (TX6 3).1 (TX6 3).2.1 (TX6 3).2.2.1 ∈ wsX6_copyFrom := by decide +kernel
def mX6_copyFrom (μ : rj_M) (b : Nat) (o : Nat) : rj_M := (mX11_copyRow (mX11_copyRow (mX11_copyRow (mX11_copyRow μ (o + 30) 24 (b + 30) 24) (o + 31) 4 (b + 31) 4) (o + 32) 4 (b + 32) 4) (o + 33) 4 (b + 33) 4)
set_option maxHeartbeats 40000000 in
set_option maxRecDepth 100000 in
theorem sX6_copyFrom {g : rj_G} {ω : rj_W} (μ : rj_M) (b : Nat) (o : Nat)  (hB : rj_base ω b) (hO : rj_base ω o)  : rj_Sp g yX6_copyFrom wsX6_copyFrom (rj_rm 2 0) [.ref (ω.2.2 (b + 29)), .ref (ω.2.2 (o + 29))] ω μ (rj_D (.inl none) ω (mX6_copyFrom μ b o)) := by
  refine rj_of' (cc := cX6_copyFrom) (nL := 2) (ret := none) (own := RX6) (l0 := [(0, .ref (ω.2.2 (b + 29))), (1, .ref (ω.2.2 (o + 29)))]) rfl (by decide +kernel) rfl (Nat.le_of_ble_eq_true rfl) rfl ?_
  refine rj_aload_n 1 dX6_copyFrom_0 rfl rfl ?_
  refine rj_getR (C0 := RX6) (T := TX6) (N := 8) (j := 0) (r := (o + 30)) dX6_copyFrom_1 rfl vX6_copyFrom_6 rfl (hO.lt (o := 29) rfl) (hO.sh (o := 29) rfl (lm_29 _)) (by decide) kX6_copyFrom_9 rfl ?_
  refine rj_aload_n 0 dX6_copyFrom_4 rfl rfl ?_
  refine rj_getR (C0 := RX6) (T := TX6) (N := 8) (j := 0) (r := (b + 30)) dX6_copyFrom_5 rfl vX6_copyFrom_6 rfl (hB.lt (o := 29) rfl) (hB.sh (o := 29) rfl (lm_29 _)) (by decide) kX6_copyFrom_9 rfl ?_
  refine rj_cSN (rest := []) (sX11_copyRow (g := g) (ω := ω) μ (o + 30) 24 (b + 30) 24 (hO.lt (o := 30) rfl) (hO.sh (o := 30) rfl (lm_30 _)) (rj_bl rfl) (hB.lt (o := 30) rfl) (hB.sh (o := 30) rfl (lm_30 _)) (rj_bl rfl)  ) ggX6_copyFrom_X11_copyRow jX6_copyFrom_36_i jX6_copyFrom_36_s jX6_copyFrom_36_n rfl hSX11_copyRow ⟨Nat.le_of_ble_eq_true rfl, Nat.le_of_ble_eq_true rfl⟩ dX6_copyFrom_8 rfl rfl rfl (Nat.le_of_ble_eq_true rfl) rfl (Nat.le_of_ble_eq_true rfl) rfl ?_
  refine rj_aload_n 1 dX6_copyFrom_11 rfl rfl ?_
  refine rj_getR (C0 := RX6) (T := TX6) (N := 8) (j := 1) (r := (o + 31)) dX6_copyFrom_12 rfl vX6_copyFrom_6 rfl (hO.lt (o := 29) rfl) (hO.sh (o := 29) rfl (lm_29 _)) (by decide) kX6_copyFrom_15 rfl ?_
  refine rj_aload_n 0 dX6_copyFrom_15 rfl rfl ?_
  refine rj_getR (C0 := RX6) (T := TX6) (N := 8) (j := 1) (r := (b + 31)) dX6_copyFrom_16 rfl vX6_copyFrom_6 rfl (hB.lt (o := 29) rfl) (hB.sh (o := 29) rfl (lm_29 _)) (by decide) kX6_copyFrom_15 rfl ?_
  refine rj_cSN (rest := []) (sX11_copyRow (g := g) (ω := ω) (mX11_copyRow μ (o + 30) 24 (b + 30) 24) (o + 31) 4 (b + 31) 4 (hO.lt (o := 31) rfl) (hO.sh (o := 31) rfl (lm_31 _)) (rj_bl rfl) (hB.lt (o := 31) rfl) (hB.sh (o := 31) rfl (lm_31 _)) (rj_bl rfl)  ) ggX6_copyFrom_X11_copyRow jX6_copyFrom_36_i jX6_copyFrom_36_s jX6_copyFrom_36_n rfl hSX11_copyRow ⟨Nat.le_of_ble_eq_true rfl, Nat.le_of_ble_eq_true rfl⟩ dX6_copyFrom_19 rfl rfl rfl (Nat.le_of_ble_eq_true rfl) rfl (Nat.le_of_ble_eq_true rfl) rfl ?_
  refine rj_aload_n 1 dX6_copyFrom_22 rfl rfl ?_
  refine rj_getR (C0 := RX6) (T := TX6) (N := 8) (j := 2) (r := (o + 32)) dX6_copyFrom_23 rfl vX6_copyFrom_6 rfl (hO.lt (o := 29) rfl) (hO.sh (o := 29) rfl (lm_29 _)) (by decide) kX6_copyFrom_18 rfl ?_
  refine rj_aload_n 0 dX6_copyFrom_26 rfl rfl ?_
  refine rj_getR (C0 := RX6) (T := TX6) (N := 8) (j := 2) (r := (b + 32)) dX6_copyFrom_27 rfl vX6_copyFrom_6 rfl (hB.lt (o := 29) rfl) (hB.sh (o := 29) rfl (lm_29 _)) (by decide) kX6_copyFrom_18 rfl ?_
  refine rj_cSN (rest := []) (sX11_copyRow (g := g) (ω := ω) (mX11_copyRow (mX11_copyRow μ (o + 30) 24 (b + 30) 24) (o + 31) 4 (b + 31) 4) (o + 32) 4 (b + 32) 4 (hO.lt (o := 32) rfl) (hO.sh (o := 32) rfl (lm_32 _)) (rj_bl rfl) (hB.lt (o := 32) rfl) (hB.sh (o := 32) rfl (lm_32 _)) (rj_bl rfl)  ) ggX6_copyFrom_X11_copyRow jX6_copyFrom_36_i jX6_copyFrom_36_s jX6_copyFrom_36_n rfl hSX11_copyRow ⟨Nat.le_of_ble_eq_true rfl, Nat.le_of_ble_eq_true rfl⟩ dX6_copyFrom_30 rfl rfl rfl (Nat.le_of_ble_eq_true rfl) rfl (Nat.le_of_ble_eq_true rfl) rfl ?_
  refine rj_aload_n 1 dX6_copyFrom_33 rfl rfl ?_
  refine rj_getR (C0 := RX6) (T := TX6) (N := 8) (j := 3) (r := (o + 33)) dX6_copyFrom_34 rfl vX6_copyFrom_6 rfl (hO.lt (o := 29) rfl) (hO.sh (o := 29) rfl (lm_29 _)) (by decide) kX6_copyFrom_21 rfl ?_
  refine rj_aload_n 0 dX6_copyFrom_37 rfl rfl ?_
  refine rj_getR (C0 := RX6) (T := TX6) (N := 8) (j := 3) (r := (b + 33)) dX6_copyFrom_38 rfl vX6_copyFrom_6 rfl (hB.lt (o := 29) rfl) (hB.sh (o := 29) rfl (lm_29 _)) (by decide) kX6_copyFrom_21 rfl ?_
  refine rj_cSN (rest := []) (sX11_copyRow (g := g) (ω := ω) (mX11_copyRow (mX11_copyRow (mX11_copyRow μ (o + 30) 24 (b + 30) 24) (o + 31) 4 (b + 31) 4) (o + 32) 4 (b + 32) 4) (o + 33) 4 (b + 33) 4 (hO.lt (o := 33) rfl) (hO.sh (o := 33) rfl (lm_33 _)) (rj_bl rfl) (hB.lt (o := 33) rfl) (hB.sh (o := 33) rfl (lm_33 _)) (rj_bl rfl)  ) ggX6_copyFrom_X11_copyRow jX6_copyFrom_36_i jX6_copyFrom_36_s jX6_copyFrom_36_n rfl hSX11_copyRow ⟨Nat.le_of_ble_eq_true rfl, Nat.le_of_ble_eq_true rfl⟩ dX6_copyFrom_41 rfl rfl rfl (Nat.le_of_ble_eq_true rfl) rfl (Nat.le_of_ble_eq_true rfl) rfl ?_
  exact rj_vret dX6_copyFrom_44 rfl (Nat.le_of_ble_eq_true rfl) (Nat.le_of_ble_eq_true rfl) ⟨rfl, rfl, (by unfold mX6_copyFrom; rfl)⟩
theorem hSX8_copyFrom : yX8_copyFrom.cls ≠ "java/lang/invoke/MethodHandle" ∧ yX8_copyFrom.cls ≠ "java/lang/invoke/VarHandle" ∧ (parseMethodDescriptor yX8_copyFrom.desc).map (fun d => d.parameters.length) = some 1 := by decide +kernel
theorem hVX8_copyFrom : yX8_copyFrom.cls = RX8 ∧ yX8_copyFrom.cls ≠ "java/lang/invoke/MethodHandle" ∧ yX8_copyFrom.cls ≠ "java/lang/invoke/VarHandle" ∧ (parseMethodDescriptor yX8_copyFrom.desc).map (fun d => d.parameters.length) = some 1 := by decide +kernel
theorem vX8_copyFrom_8 : ∀ w ∈ u_ws RX8 TX8 5, w ∈ wsX8_copyFrom := by decide +kernel
theorem kX8_copyFrom_9 : Cond.fieldLink RX8 9 (TX8 0).1 (TX8 0).2.1 (TX8 0).2.2.1 ∈ wsX8_copyFrom := by decide +kernel
theorem jX8_copyFrom_33_i : Cond.initialized yX11_copyRow.cls ∈ wsX8_copyFrom := by decide +kernel
theorem jX8_copyFrom_33_s : Cond.static yX11_copyRow ∈ wsX8_copyFrom := by decide +kernel
theorem jX8_copyFrom_33_n : (RX8, 33, yX11_copyRow, "Festivalgrounds") ∈ rj_nw := by decide +kernel
theorem kX8_copyFrom_15 : Cond.fieldLink RX8 15 (TX8 1).1 (TX8 1).2.1 (TX8 1).2.2.1 ∈ wsX8_copyFrom := by decide +kernel
theorem kX8_copyFrom_18 : Cond.fieldLink RX8 18 (TX8 2).1 (TX8 2).2.1 (TX8 2).2.2.1 ∈ wsX8_copyFrom := by decide +kernel
theorem kX8_copyFrom_22 : Cond.fieldLink RX8 22 (TX8 3).1 (TX8 3).2.1 (TX8 3).2.2.1 ∈ wsX8_copyFrom := by decide +kernel
theorem jX8_copyFrom_37_i : Cond.initialized yX11_copyRow_.cls ∈ wsX8_copyFrom := by decide +kernel
theorem jX8_copyFrom_37_s : Cond.static yX11_copyRow_ ∈ wsX8_copyFrom := by decide +kernel
theorem jX8_copyFrom_37_n : (RX8, 37, yX11_copyRow_, "Festivalgrounds") ∈ rj_nw := by decide +kernel
theorem kX8_copyFrom_26 : Cond.fieldLink RX8 26 (TX8 4).1 (TX8 4).2.1 (TX8 4).2.2.1 ∈ wsX8_copyFrom := by decide +kernel
def mX8_copyFrom (μ : rj_M) (b : Nat) (o : Nat) : rj_M := (mX11_copyRow_ (mX11_copyRow_ (rj_pl (mX11_copyRow (mX11_copyRow μ (o + 39) 4 (b + 39) 4) (o + 40) 48 (b + 40) 48) (b + 38) 2 ((mX11_copyRow (mX11_copyRow μ (o + 39) 4 (b + 39) 4) (o + 40) 48 (b + 40) 48).2.1 (o + 38) 2)) (o + 41) 12 (b + 41) 12) (o + 42) 12 (b + 42) 12)
set_option maxHeartbeats 40000000 in
set_option maxRecDepth 100000 in
theorem sX8_copyFrom {g : rj_G} {ω : rj_W} (μ : rj_M) (b : Nat) (o : Nat)  (hB : rj_base ω b) (hO : rj_base ω o)  : rj_Sp g yX8_copyFrom wsX8_copyFrom (rj_rm 2 0) [.ref (ω.2.2 (b + 38)), .ref (ω.2.2 (o + 38))] ω μ (rj_D (.inl none) ω (mX8_copyFrom μ b o)) := by
  refine rj_of' (cc := cX8_copyFrom) (nL := 2) (ret := none) (own := RX8) (l0 := [(0, .ref (ω.2.2 (b + 38))), (1, .ref (ω.2.2 (o + 38)))]) rfl (by decide +kernel) rfl (Nat.le_of_ble_eq_true rfl) rfl ?_
  refine rj_aload_n 1 dX8_copyFrom_0 rfl rfl ?_
  refine rj_getR (C0 := RX8) (T := TX8) (N := 5) (j := 0) (r := (o + 39)) dX8_copyFrom_1 rfl vX8_copyFrom_8 rfl (hO.lt (o := 38) rfl) (hO.sh (o := 38) rfl (lm_38 _)) (by decide) kX8_copyFrom_9 rfl ?_
  refine rj_aload_n 0 dX8_copyFrom_4 rfl rfl ?_
  refine rj_getR (C0 := RX8) (T := TX8) (N := 5) (j := 0) (r := (b + 39)) dX8_copyFrom_5 rfl vX8_copyFrom_8 rfl (hB.lt (o := 38) rfl) (hB.sh (o := 38) rfl (lm_38 _)) (by decide) kX8_copyFrom_9 rfl ?_
  refine rj_cSN (rest := []) (sX11_copyRow (g := g) (ω := ω) μ (o + 39) 4 (b + 39) 4 (hO.lt (o := 39) rfl) (hO.sh (o := 39) rfl (lm_39 _)) (rj_bl rfl) (hB.lt (o := 39) rfl) (hB.sh (o := 39) rfl (lm_39 _)) (rj_bl rfl)  ) ggX8_copyFrom_X11_copyRow jX8_copyFrom_33_i jX8_copyFrom_33_s jX8_copyFrom_33_n rfl hSX11_copyRow ⟨Nat.le_of_ble_eq_true rfl, Nat.le_of_ble_eq_true rfl⟩ dX8_copyFrom_8 rfl rfl rfl (Nat.le_of_ble_eq_true rfl) rfl (Nat.le_of_ble_eq_true rfl) rfl ?_
  refine rj_aload_n 1 dX8_copyFrom_11 rfl rfl ?_
  refine rj_getR (C0 := RX8) (T := TX8) (N := 5) (j := 1) (r := (o + 40)) dX8_copyFrom_12 rfl vX8_copyFrom_8 rfl (hO.lt (o := 38) rfl) (hO.sh (o := 38) rfl (lm_38 _)) (by decide) kX8_copyFrom_15 rfl ?_
  refine rj_aload_n 0 dX8_copyFrom_15 rfl rfl ?_
  refine rj_getR (C0 := RX8) (T := TX8) (N := 5) (j := 1) (r := (b + 40)) dX8_copyFrom_16 rfl vX8_copyFrom_8 rfl (hB.lt (o := 38) rfl) (hB.sh (o := 38) rfl (lm_38 _)) (by decide) kX8_copyFrom_15 rfl ?_
  refine rj_cSN (rest := []) (sX11_copyRow (g := g) (ω := ω) (mX11_copyRow μ (o + 39) 4 (b + 39) 4) (o + 40) 48 (b + 40) 48 (hO.lt (o := 40) rfl) (hO.sh (o := 40) rfl (lm_40 _)) (rj_bl rfl) (hB.lt (o := 40) rfl) (hB.sh (o := 40) rfl (lm_40 _)) (rj_bl rfl)  ) ggX8_copyFrom_X11_copyRow jX8_copyFrom_33_i jX8_copyFrom_33_s jX8_copyFrom_33_n rfl hSX11_copyRow ⟨Nat.le_of_ble_eq_true rfl, Nat.le_of_ble_eq_true rfl⟩ dX8_copyFrom_19 rfl rfl rfl (Nat.le_of_ble_eq_true rfl) rfl (Nat.le_of_ble_eq_true rfl) rfl ?_
  refine rj_aload_n 0 dX8_copyFrom_22 rfl rfl ?_
  refine rj_aload_n 1 dX8_copyFrom_23 rfl rfl ?_
  refine rj_getL (C0 := RX8) (T := TX8) (N := 5) (j := 2) dX8_copyFrom_24 rfl vX8_copyFrom_8 rfl (hO.lt (o := 38) rfl) (hO.sh (o := 38) rfl (lm_38 _)) (by decide) kX8_copyFrom_18 rfl ?_
  refine rj_putL (C0 := RX8) (T := TX8) (N := 5) (j := 2) dX8_copyFrom_27 rfl vX8_copyFrom_8 rfl (hB.lt (o := 38) rfl) (hB.sh (o := 38) rfl (lm_38 _)) (by decide) kX8_copyFrom_18 tyX8 tyX8_ok nmX8 rfl rfl rfl rfl ?_
  refine rj_aload_n 1 dX8_copyFrom_30 rfl rfl ?_
  refine rj_getR (C0 := RX8) (T := TX8) (N := 5) (j := 3) (r := (o + 41)) dX8_copyFrom_31 rfl vX8_copyFrom_8 rfl (hO.lt (o := 38) rfl) (hO.sh (o := 38) rfl (lm_38 _)) (by decide) kX8_copyFrom_22 rfl ?_
  refine rj_aload_n 0 dX8_copyFrom_34 rfl rfl ?_
  refine rj_getR (C0 := RX8) (T := TX8) (N := 5) (j := 3) (r := (b + 41)) dX8_copyFrom_35 rfl vX8_copyFrom_8 rfl (hB.lt (o := 38) rfl) (hB.sh (o := 38) rfl (lm_38 _)) (by decide) kX8_copyFrom_22 rfl ?_
  refine rj_cSN (rest := []) (sX11_copyRow_ (g := g) (ω := ω) (rj_pl (mX11_copyRow (mX11_copyRow μ (o + 39) 4 (b + 39) 4) (o + 40) 48 (b + 40) 48) (b + 38) 2 ((mX11_copyRow (mX11_copyRow μ (o + 39) 4 (b + 39) 4) (o + 40) 48 (b + 40) 48).2.1 (o + 38) 2)) (o + 41) 12 (b + 41) 12 (hO.lt (o := 41) rfl) (hO.sh (o := 41) rfl (lm_41 _)) (rj_bl rfl) (hB.lt (o := 41) rfl) (hB.sh (o := 41) rfl (lm_41 _)) (rj_bl rfl)  ) ggX8_copyFrom_X11_copyRow_ jX8_copyFrom_37_i jX8_copyFrom_37_s jX8_copyFrom_37_n rfl hSX11_copyRow_ ⟨Nat.le_of_ble_eq_true rfl, Nat.le_of_ble_eq_true rfl⟩ dX8_copyFrom_38 rfl rfl rfl (Nat.le_of_ble_eq_true rfl) rfl (Nat.le_of_ble_eq_true rfl) rfl ?_
  refine rj_aload_n 1 dX8_copyFrom_41 rfl rfl ?_
  refine rj_getR (C0 := RX8) (T := TX8) (N := 5) (j := 4) (r := (o + 42)) dX8_copyFrom_42 rfl vX8_copyFrom_8 rfl (hO.lt (o := 38) rfl) (hO.sh (o := 38) rfl (lm_38 _)) (by decide) kX8_copyFrom_26 rfl ?_
  refine rj_aload_n 0 dX8_copyFrom_45 rfl rfl ?_
  refine rj_getR (C0 := RX8) (T := TX8) (N := 5) (j := 4) (r := (b + 42)) dX8_copyFrom_46 rfl vX8_copyFrom_8 rfl (hB.lt (o := 38) rfl) (hB.sh (o := 38) rfl (lm_38 _)) (by decide) kX8_copyFrom_26 rfl ?_
  refine rj_cSN (rest := []) (sX11_copyRow_ (g := g) (ω := ω) (mX11_copyRow_ (rj_pl (mX11_copyRow (mX11_copyRow μ (o + 39) 4 (b + 39) 4) (o + 40) 48 (b + 40) 48) (b + 38) 2 ((mX11_copyRow (mX11_copyRow μ (o + 39) 4 (b + 39) 4) (o + 40) 48 (b + 40) 48).2.1 (o + 38) 2)) (o + 41) 12 (b + 41) 12) (o + 42) 12 (b + 42) 12 (hO.lt (o := 42) rfl) (hO.sh (o := 42) rfl (lm_42 _)) (rj_bl rfl) (hB.lt (o := 42) rfl) (hB.sh (o := 42) rfl (lm_42 _)) (rj_bl rfl)  ) ggX8_copyFrom_X11_copyRow_ jX8_copyFrom_37_i jX8_copyFrom_37_s jX8_copyFrom_37_n rfl hSX11_copyRow_ ⟨Nat.le_of_ble_eq_true rfl, Nat.le_of_ble_eq_true rfl⟩ dX8_copyFrom_49 rfl rfl rfl (Nat.le_of_ble_eq_true rfl) rfl (Nat.le_of_ble_eq_true rfl) rfl ?_
  exact rj_vret dX8_copyFrom_52 rfl (Nat.le_of_ble_eq_true rfl) (Nat.le_of_ble_eq_true rfl) ⟨rfl, rfl, (by unfold mX8_copyFrom; rfl)⟩
