theorem hSX7_copyFrom : yX7_copyFrom.cls ≠ "java/lang/invoke/MethodHandle" ∧ yX7_copyFrom.cls ≠ "java/lang/invoke/VarHandle" ∧ (parseMethodDescriptor yX7_copyFrom.desc).map (fun d => d.parameters.length) = some 1 := by decide +kernel
theorem hVX7_copyFrom : yX7_copyFrom.cls = RX7 ∧ yX7_copyFrom.cls ≠ "java/lang/invoke/MethodHandle" ∧ yX7_copyFrom.cls ≠ "java/lang/invoke/VarHandle" ∧ (parseMethodDescriptor yX7_copyFrom.desc).map (fun d => d.parameters.length) = some 1 := by decide +kernel
theorem vX7_copyFrom_7 : ∀ w ∈ u_ws RX7 TX7 8, w ∈ wsX7_copyFrom := by decide +kernel
theorem kX7_copyFrom_9 : Cond.fieldLink RX7 9 (TX7 0).1 (TX7 0).2.1 (TX7 0).2.2.1 ∈ wsX7_copyFrom := by decide +kernel
theorem jX7_copyFrom_36_i : Cond.initialized yX11_copyRow.cls ∈ wsX7_copyFrom := by decide +kernel
theorem jX7_copyFrom_36_s : Cond.static yX11_copyRow ∈ wsX7_copyFrom := by decide +kernel
theorem jX7_copyFrom_36_n : (RX7, 36, yX11_copyRow, "Festivalgrounds") ∈ rj_nw := by decide +kernel
theorem kX7_copyFrom_15 : Cond.fieldLink RX7 15 (TX7 1).1 (TX7 1).2.1 (TX7 1).2.2.1 ∈ wsX7_copyFrom := by decide +kernel
theorem kX7_copyFrom_18 : Cond.fieldLink RX7 18 (TX7 2).1 (TX7 2).2.1 (TX7 2).2.2.1 ∈ wsX7_copyFrom := by decide +kernel
theorem kX7_copyFrom_21 : Cond.fieldLink RX7 21 (TX7 3).1 (TX7 3).2.1 (TX7 3).2.2.1 ∈ wsX7_copyFrom := by decide +kernel
theorem kX7_copyFrom_24 : Cond.fieldLink RX7 24 (TX7 4).1 (TX7 4).2.1 (TX7 4).2.2.1 ∈ wsX7_copyFrom := by decide +kernel
theorem kX7_copyFrom_27 : Cond.fieldLink RX7 27 (TX7 5).1 (TX7 5).2.1 (TX7 5).2.2.1 ∈ wsX7_copyFrom := by decide +kernel
def mX7_copyFrom (μ : rj_M) (b : Nat) (o : Nat) : rj_M := (mX11_copyRow (mX11_copyRow (mX11_copyRow (mX11_copyRow (mX11_copyRow (mX11_copyRow μ (o + 8) 16 (b + 8) 16) (o + 9) 16 (b + 9) 16) (o + 10) 16 (b + 10) 16) (o + 11) 16 (b + 11) 16) (o + 12) 16 (b + 12) 16) (o + 13) 192 (b + 13) 192)
set_option maxHeartbeats 40000000 in
set_option maxRecDepth 100000 in
theorem sX7_copyFrom {g : rj_G} {ω : rj_W} (μ : rj_M) (b : Nat) (o : Nat)  (hB : rj_base ω b) (hO : rj_base ω o)  : rj_Sp g yX7_copyFrom wsX7_copyFrom (rj_rm 2 0) [.ref (ω.2.2 (b + 7)), .ref (ω.2.2 (o + 7))] ω μ (rj_D (.inl none) ω (mX7_copyFrom μ b o)) := by
  refine rj_of' (cc := cX7_copyFrom) (nL := 2) (ret := none) (own := RX7) (l0 := [(0, .ref (ω.2.2 (b + 7))), (1, .ref (ω.2.2 (o + 7)))]) rfl (by decide +kernel) rfl (Nat.le_of_ble_eq_true rfl) rfl ?_
  refine rj_aload_n 1 dX7_copyFrom_0 rfl rfl ?_
  refine rj_getR (C0 := RX7) (T := TX7) (N := 8) (j := 0) (r := (o + 8)) dX7_copyFrom_1 rfl vX7_copyFrom_7 rfl (hO.lt (o := 7) rfl) (hO.sh (o := 7) rfl (lm_7 _)) (by decide) kX7_copyFrom_9 rfl ?_
  refine rj_aload_n 0 dX7_copyFrom_4 rfl rfl ?_
  refine rj_getR (C0 := RX7) (T := TX7) (N := 8) (j := 0) (r := (b + 8)) dX7_copyFrom_5 rfl vX7_copyFrom_7 rfl (hB.lt (o := 7) rfl) (hB.sh (o := 7) rfl (lm_7 _)) (by decide) kX7_copyFrom_9 rfl ?_
  refine rj_cSN (rest := []) (sX11_copyRow (g := g) (ω := ω) μ (o + 8) 16 (b + 8) 16 (hO.lt (o := 8) rfl) (hO.sh (o := 8) rfl (lm_8 _)) (rj_bl rfl) (hB.lt (o := 8) rfl) (hB.sh (o := 8) rfl (lm_8 _)) (rj_bl rfl)  ) ggX7_copyFrom_X11_copyRow jX7_copyFrom_36_i jX7_copyFrom_36_s jX7_copyFrom_36_n rfl hSX11_copyRow ⟨Nat.le_of_ble_eq_true rfl, Nat.le_of_ble_eq_true rfl⟩ dX7_copyFrom_8 rfl rfl rfl (Nat.le_of_ble_eq_true rfl) rfl (Nat.le_of_ble_eq_true rfl) rfl ?_
  refine rj_aload_n 1 dX7_copyFrom_11 rfl rfl ?_
  refine rj_getR (C0 := RX7) (T := TX7) (N := 8) (j := 1) (r := (o + 9)) dX7_copyFrom_12 rfl vX7_copyFrom_7 rfl (hO.lt (o := 7) rfl) (hO.sh (o := 7) rfl (lm_7 _)) (by decide) kX7_copyFrom_15 rfl ?_
  refine rj_aload_n 0 dX7_copyFrom_15 rfl rfl ?_
  refine rj_getR (C0 := RX7) (T := TX7) (N := 8) (j := 1) (r := (b + 9)) dX7_copyFrom_16 rfl vX7_copyFrom_7 rfl (hB.lt (o := 7) rfl) (hB.sh (o := 7) rfl (lm_7 _)) (by decide) kX7_copyFrom_15 rfl ?_
  refine rj_cSN (rest := []) (sX11_copyRow (g := g) (ω := ω) (mX11_copyRow μ (o + 8) 16 (b + 8) 16) (o + 9) 16 (b + 9) 16 (hO.lt (o := 9) rfl) (hO.sh (o := 9) rfl (lm_9 _)) (rj_bl rfl) (hB.lt (o := 9) rfl) (hB.sh (o := 9) rfl (lm_9 _)) (rj_bl rfl)  ) ggX7_copyFrom_X11_copyRow jX7_copyFrom_36_i jX7_copyFrom_36_s jX7_copyFrom_36_n rfl hSX11_copyRow ⟨Nat.le_of_ble_eq_true rfl, Nat.le_of_ble_eq_true rfl⟩ dX7_copyFrom_19 rfl rfl rfl (Nat.le_of_ble_eq_true rfl) rfl (Nat.le_of_ble_eq_true rfl) rfl ?_
  refine rj_aload_n 1 dX7_copyFrom_22 rfl rfl ?_
  refine rj_getR (C0 := RX7) (T := TX7) (N := 8) (j := 2) (r := (o + 10)) dX7_copyFrom_23 rfl vX7_copyFrom_7 rfl (hO.lt (o := 7) rfl) (hO.sh (o := 7) rfl (lm_7 _)) (by decide) kX7_copyFrom_18 rfl ?_
  refine rj_aload_n 0 dX7_copyFrom_26 rfl rfl ?_
  refine rj_getR (C0 := RX7) (T := TX7) (N := 8) (j := 2) (r := (b + 10)) dX7_copyFrom_27 rfl vX7_copyFrom_7 rfl (hB.lt (o := 7) rfl) (hB.sh (o := 7) rfl (lm_7 _)) (by decide) kX7_copyFrom_18 rfl ?_
  refine rj_cSN (rest := []) (sX11_copyRow (g := g) (ω := ω) (mX11_copyRow (mX11_copyRow μ (o + 8) 16 (b + 8) 16) (o + 9) 16 (b + 9) 16) (o + 10) 16 (b + 10) 16 (hO.lt (o := 10) rfl) (hO.sh (o := 10) rfl (lm_10 _)) (rj_bl rfl) (hB.lt (o := 10) rfl) (hB.sh (o := 10) rfl (lm_10 _)) (rj_bl rfl)  ) ggX7_copyFrom_X11_copyRow jX7_copyFrom_36_i jX7_copyFrom_36_s jX7_copyFrom_36_n rfl hSX11_copyRow ⟨Nat.le_of_ble_eq_true rfl, Nat.le_of_ble_eq_true rfl⟩ dX7_copyFrom_30 rfl rfl rfl (Nat.le_of_ble_eq_true rfl) rfl (Nat.le_of_ble_eq_true rfl) rfl ?_
  refine rj_aload_n 1 dX7_copyFrom_33 rfl rfl ?_
  refine rj_getR (C0 := RX7) (T := TX7) (N := 8) (j := 3) (r := (o + 11)) dX7_copyFrom_34 rfl vX7_copyFrom_7 rfl (hO.lt (o := 7) rfl) (hO.sh (o := 7) rfl (lm_7 _)) (by decide) kX7_copyFrom_21 rfl ?_
  refine rj_aload_n 0 dX7_copyFrom_37 rfl rfl ?_
  refine rj_getR (C0 := RX7) (T := TX7) (N := 8) (j := 3) (r := (b + 11)) dX7_copyFrom_38 rfl vX7_copyFrom_7 rfl (hB.lt (o := 7) rfl) (hB.sh (o := 7) rfl (lm_7 _)) (by decide) kX7_copyFrom_21 rfl ?_
  refine rj_cSN (rest := []) (sX11_copyRow (g := g) (ω := ω) (mX11_copyRow (mX11_copyRow (mX11_copyRow μ (o + 8) 16 (b + 8) 16) (o + 9) 16 (b + 9) 16) (o + 10) 16 (b + 10) 16) (o + 11) 16 (b + 11) 16 (hO.lt (o := 11) rfl) (hO.sh (o := 11) rfl (lm_11 _)) (rj_bl rfl) (hB.lt (o := 11) rfl) (hB.sh (o := 11) rfl (lm_11 _)) (rj_bl rfl)  ) ggX7_copyFrom_X11_copyRow jX7_copyFrom_36_i jX7_copyFrom_36_s jX7_copyFrom_36_n rfl hSX11_copyRow ⟨Nat.le_of_ble_eq_true rfl, Nat.le_of_ble_eq_true rfl⟩ dX7_copyFrom_41 rfl rfl rfl (Nat.le_of_ble_eq_true rfl) rfl (Nat.le_of_ble_eq_true rfl) rfl ?_
  refine rj_aload_n 1 dX7_copyFrom_44 rfl rfl ?_
  refine rj_getR (C0 := RX7) (T := TX7) (N := 8) (j := 4) (r := (o + 12)) dX7_copyFrom_45 rfl vX7_copyFrom_7 rfl (hO.lt (o := 7) rfl) (hO.sh (o := 7) rfl (lm_7 _)) (by decide) kX7_copyFrom_24 rfl ?_
  refine rj_aload_n 0 dX7_copyFrom_48 rfl rfl ?_
  refine rj_getR (C0 := RX7) (T := TX7) (N := 8) (j := 4) (r := (b + 12)) dX7_copyFrom_49 rfl vX7_copyFrom_7 rfl (hB.lt (o := 7) rfl) (hB.sh (o := 7) rfl (lm_7 _)) (by decide) kX7_copyFrom_24 rfl ?_
  refine rj_cSN (rest := []) (sX11_copyRow (g := g) (ω := ω) (mX11_copyRow (mX11_copyRow (mX11_copyRow (mX11_copyRow μ (o + 8) 16 (b + 8) 16) (o + 9) 16 (b + 9) 16) (o + 10) 16 (b + 10) 16) (o + 11) 16 (b + 11) 16) (o + 12) 16 (b + 12) 16 (hO.lt (o := 12) rfl) (hO.sh (o := 12) rfl (lm_12 _)) (rj_bl rfl) (hB.lt (o := 12) rfl) (hB.sh (o := 12) rfl (lm_12 _)) (rj_bl rfl)  ) ggX7_copyFrom_X11_copyRow jX7_copyFrom_36_i jX7_copyFrom_36_s jX7_copyFrom_36_n rfl hSX11_copyRow ⟨Nat.le_of_ble_eq_true rfl, Nat.le_of_ble_eq_true rfl⟩ dX7_copyFrom_52 rfl rfl rfl (Nat.le_of_ble_eq_true rfl) rfl (Nat.le_of_ble_eq_true rfl) rfl ?_
  refine rj_aload_n 1 dX7_copyFrom_55 rfl rfl ?_
  refine rj_getR (C0 := RX7) (T := TX7) (N := 8) (j := 5) (r := (o + 13)) dX7_copyFrom_56 rfl vX7_copyFrom_7 rfl (hO.lt (o := 7) rfl) (hO.sh (o := 7) rfl (lm_7 _)) (by decide) kX7_copyFrom_27 rfl ?_
  refine rj_aload_n 0 dX7_copyFrom_59 rfl rfl ?_
  refine rj_getR (C0 := RX7) (T := TX7) (N := 8) (j := 5) (r := (b + 13)) dX7_copyFrom_60 rfl vX7_copyFrom_7 rfl (hB.lt (o := 7) rfl) (hB.sh (o := 7) rfl (lm_7 _)) (by decide) kX7_copyFrom_27 rfl ?_
  refine rj_cSN (rest := []) (sX11_copyRow (g := g) (ω := ω) (mX11_copyRow (mX11_copyRow (mX11_copyRow (mX11_copyRow (mX11_copyRow μ (o + 8) 16 (b + 8) 16) (o + 9) 16 (b + 9) 16) (o + 10) 16 (b + 10) 16) (o + 11) 16 (b + 11) 16) (o + 12) 16 (b + 12) 16) (o + 13) 192 (b + 13) 192 (hO.lt (o := 13) rfl) (hO.sh (o := 13) rfl (lm_13 _)) (rj_bl rfl) (hB.lt (o := 13) rfl) (hB.sh (o := 13) rfl (lm_13 _)) (rj_bl rfl)  ) ggX7_copyFrom_X11_copyRow jX7_copyFrom_36_i jX7_copyFrom_36_s jX7_copyFrom_36_n rfl hSX11_copyRow ⟨Nat.le_of_ble_eq_true rfl, Nat.le_of_ble_eq_true rfl⟩ dX7_copyFrom_63 rfl rfl rfl (Nat.le_of_ble_eq_true rfl) rfl (Nat.le_of_ble_eq_true rfl) rfl ?_
  exact rj_vret dX7_copyFrom_66 rfl (Nat.le_of_ble_eq_true rfl) (Nat.le_of_ble_eq_true rfl) ⟨rfl, rfl, (by unfold mX7_copyFrom; rfl)⟩
