theorem hSX11_dateAt : yX11_dateAt.cls ≠ "java/lang/invoke/MethodHandle" ∧ yX11_dateAt.cls ≠ "java/lang/invoke/VarHandle" ∧ (parseMethodDescriptor yX11_dateAt.desc).map (fun d => d.parameters.length) = some 2 := by decide +kernel
theorem hVX11_dateAt : yX11_dateAt.cls = RX11 ∧ yX11_dateAt.cls ≠ "java/lang/invoke/MethodHandle" ∧ yX11_dateAt.cls ≠ "java/lang/invoke/VarHandle" ∧ (parseMethodDescriptor yX11_dateAt.desc).map (fun d => d.parameters.length) = some 2 := by decide +kernel
theorem vX11_dateAt_11 : ∀ w ∈ u_ws RX11 TX11 6, w ∈ wsX11_dateAt := by decide +kernel
theorem kX11_dateAt_12 : Cond.fieldLink RX11 12 (TX11 0).1 (TX11 0).2.1 (TX11 0).2.2.1 ∈ wsX11_dateAt := by decide +kernel
theorem vX11_dateAt_5 : ∀ w ∈ u_ws RX5 TX5 8, w ∈ wsX11_dateAt := by decide +kernel
theorem kX11_dateAt_67 : Cond.fieldLink RX11 67 (TX5 0).1 (TX5 0).2.1 (TX5 0).2.2.1 ∈ wsX11_dateAt := by decide +kernel
def fX11_dateAt (μ : rj_M) (a0 : Int32) (a1 : Int32) : Int32 ⊕ String := (rj_bx (fX11_needRange μ a0 0 5759) (rj_bx (fX11_needRange μ a1 0 5) (if a1 = 4 then (.inl ((a0 - a0 / 1440 * 1440) / 60)) else (if a1 = 5 then (.inl (a0 - a0 / 60 * 60)) else (.inl (fX1_partOf μ (a0 / 1440) a1))))))
set_option maxHeartbeats 4000000 in
set_option maxRecDepth 100000 in
theorem sX11_dateAt {g : rj_G} {ω : rj_W} (hω : rj_ok ω) (μ : rj_M) (a0 : Int32) (a1 : Int32)   : rj_Sp g yX11_dateAt wsX11_dateAt (rj_rm 7 2) [.ref (ω.2.2 0), .int a0, .int a1] ω μ (rj_D (rj_oi (fX11_dateAt μ a0 a1)) ω μ) := by
  refine rj_of' (cc := cX11_dateAt) (nL := 3) (ret := (some .int)) (own := RX11) (l0 := [(0, .ref (ω.2.2 0)), (1, .int a0), (2, .int a1)]) rfl (by decide +kernel) rfl (Nat.le_of_ble_eq_true rfl) rfl ?_
  refine rj_iload_n 1 dX11_dateAt_0 rfl rfl ?_
  refine rj_iconst (v := 0) dX11_dateAt_1 rfl (by decide) ?_
  refine rj_sipush (v := 5759) dX11_dateAt_2 rfl (by decide) ?_
  refine rj_cSx (rest := []) (sX11_needRange (g := g) (ω := ω) hω μ a0 0 5759   ) gX11_dateAt_X11_needRange rfl hSX11_needRange ⟨Nat.le_of_ble_eq_true rfl, Nat.le_of_ble_eq_true rfl⟩ dX11_dateAt_5 rfl rfl rfl (Nat.le_of_ble_eq_true rfl) rfl (Nat.le_of_ble_eq_true rfl) (fun E hE2 => ?_) (fun hx1 => ?_)
  · exact ⟨(by unfold fX11_dateAt; try (rw [hE2]); try (simp only [rj_bx]); try rfl), rfl, rfl⟩
  · refine rj_iload_n 2 dX11_dateAt_8 rfl rfl ?_
    refine rj_iconst (v := 0) dX11_dateAt_9 rfl (by decide) ?_
    refine rj_iconst (v := 5) dX11_dateAt_10 rfl (by decide) ?_
    refine rj_cSx (rest := []) (sX11_needRange (g := g) (ω := ω) hω μ a1 0 5   ) gX11_dateAt_X11_needRange rfl hSX11_needRange ⟨Nat.le_of_ble_eq_true rfl, Nat.le_of_ble_eq_true rfl⟩ dX11_dateAt_11 rfl rfl rfl (Nat.le_of_ble_eq_true rfl) rfl (Nat.le_of_ble_eq_true rfl) (fun E hE4 => ?_) (fun hx3 => ?_)
    · exact ⟨(by unfold fX11_dateAt; try (rw [hx1]); try (simp only [rj_bx]); try (rw [hE4]); try (simp only [rj_bx]); try rfl), rfl, rfl⟩
    · refine rj_iload_n 2 dX11_dateAt_14 rfl rfl ?_
      refine rj_iconst (v := 4) dX11_dateAt_15 rfl (by decide) ?_
      refine rj_icmp_ne dX11_dateAt_16 rfl rfl (fun h5 => ?_) (fun h5 => ?_)
      · refine rj_iload_n 2 dX11_dateAt_28 rfl rfl ?_
        refine rj_iconst (v := 5) dX11_dateAt_29 rfl (by decide) ?_
        refine rj_icmp_ne dX11_dateAt_30 rfl rfl (fun h6 => ?_) (fun h6 => ?_)
        · refine rj_aload_n 0 dX11_dateAt_38 rfl rfl ?_
          refine rj_getR (C0 := RX11) (T := TX11) (N := 6) (j := 0) (r := 1) dX11_dateAt_39 rfl vX11_dateAt_11 rfl (rj_lt hω (k := 0) rfl) (rj_sh hω ly_0) (by decide) kX11_dateAt_12 rfl ?_
          refine rj_getR (C0 := RX5) (T := TX5) (N := 8) (j := 0) (r := 2) dX11_dateAt_42 rfl vX11_dateAt_5 rfl (rj_lt hω (k := 1) rfl) (rj_sh hω ly_1) (by decide) kX11_dateAt_67 rfl ?_
          refine rj_iload_n 1 dX11_dateAt_45 rfl rfl ?_
          refine rj_sipush (v := 1440) dX11_dateAt_46 rfl (by decide) ?_
          refine rj_idiv dX11_dateAt_49 rfl (by decide) ?_
          refine rj_iload_n 2 dX11_dateAt_50 rfl rfl ?_
          refine rj_cV (rest := []) (sX1_partOf (g := g) (ω := ω) hω μ (a0 / 1440) a1   ) gX11_dateAt_X1_partOf (rj_lt hω (k := 2) rfl) (rj_sh hω ly_2) rfl rfl hVX1_partOf ⟨Nat.le_of_ble_eq_true rfl, Nat.le_of_ble_eq_true rfl⟩ dX11_dateAt_51 rfl rfl rfl (Nat.le_of_ble_eq_true rfl) rfl (Nat.le_of_ble_eq_true rfl) rfl ?_
          exact rj_iret dX11_dateAt_54 rfl (Nat.le_of_ble_eq_true rfl) (Nat.le_of_ble_eq_true rfl) ⟨(by unfold fX11_dateAt; try (rw [hx1]); try (simp only [rj_bx]); try (rw [hx3]); try (simp only [rj_bx]); try (rw [if_neg h5]); try (rw [if_neg h6]); try rfl), rfl, rfl⟩
        · refine rj_iload_n 1 dX11_dateAt_33 rfl rfl ?_
          refine rj_bipush (v := 60) dX11_dateAt_34 rfl (by decide) ?_
          refine rj_irem dX11_dateAt_36 rfl (by decide) ?_
          exact rj_iret dX11_dateAt_37 rfl (Nat.le_of_ble_eq_true rfl) (Nat.le_of_ble_eq_true rfl) ⟨(by unfold fX11_dateAt; try (rw [hx1]); try (simp only [rj_bx]); try (rw [hx3]); try (simp only [rj_bx]); try (rw [if_neg h5]); try (rw [if_pos h6]); try rfl), rfl, rfl⟩
      · refine rj_iload_n 1 dX11_dateAt_19 rfl rfl ?_
        refine rj_sipush (v := 1440) dX11_dateAt_20 rfl (by decide) ?_
        refine rj_irem dX11_dateAt_23 rfl (by decide) ?_
        refine rj_bipush (v := 60) dX11_dateAt_24 rfl (by decide) ?_
        refine rj_idiv dX11_dateAt_26 rfl (by decide) ?_
        exact rj_iret dX11_dateAt_27 rfl (Nat.le_of_ble_eq_true rfl) (Nat.le_of_ble_eq_true rfl) ⟨(by unfold fX11_dateAt; try (rw [hx1]); try (simp only [rj_bx]); try (rw [hx3]); try (simp only [rj_bx]); try (rw [if_pos h5]); try rfl), rfl, rfl⟩
theorem hSX11_walk : yX11_walk.cls ≠ "java/lang/invoke/MethodHandle" ∧ yX11_walk.cls ≠ "java/lang/invoke/VarHandle" ∧ (parseMethodDescriptor yX11_walk.desc).map (fun d => d.parameters.length) = some 2 := by decide +kernel
theorem hVX11_walk : yX11_walk.cls = RX11 ∧ yX11_walk.cls ≠ "java/lang/invoke/MethodHandle" ∧ yX11_walk.cls ≠ "java/lang/invoke/VarHandle" ∧ (parseMethodDescriptor yX11_walk.desc).map (fun d => d.parameters.length) = some 2 := by decide +kernel
theorem vX11_walk_11 : ∀ w ∈ u_ws RX11 TX11 6, w ∈ wsX11_walk := by decide +kernel
theorem kX11_walk_12 : Cond.fieldLink RX11 12 (TX11 0).1 (TX11 0).2.1 (TX11 0).2.2.1 ∈ wsX11_walk := by decide +kernel
theorem vX11_walk_5 : ∀ w ∈ u_ws RX5 TX5 8, w ∈ wsX11_walk := by decide +kernel
theorem kX11_walk_22 : Cond.fieldLink RX11 22 (TX5 1).1 (TX5 1).2.1 (TX5 1).2.2.1 ∈ wsX11_walk := by decide +kernel
def fX11_walk (μ : rj_M) (a0 : Int32) (a1 : Int32) : Int32 ⊕ String := (rj_bx (fX11_needPlace μ a0 4) (rj_bx (fX11_needPlace μ a1 4) (.inl (fX4_minutesBetween μ a0 a1))))
set_option maxHeartbeats 4000000 in
set_option maxRecDepth 100000 in
theorem sX11_walk {g : rj_G} {ω : rj_W} (hω : rj_ok ω) (μ : rj_M) (a0 : Int32) (a1 : Int32)   : rj_Sp g yX11_walk wsX11_walk (rj_rm 7 2) [.ref (ω.2.2 0), .int a0, .int a1] ω μ (rj_D (rj_oi (fX11_walk μ a0 a1)) ω μ) := by
  refine rj_of' (cc := cX11_walk) (nL := 3) (ret := (some .int)) (own := RX11) (l0 := [(0, .ref (ω.2.2 0)), (1, .int a0), (2, .int a1)]) rfl (by decide +kernel) rfl (Nat.le_of_ble_eq_true rfl) rfl ?_
  refine rj_iload_n 1 dX11_walk_0 rfl rfl ?_
  refine rj_iconst (v := 4) dX11_walk_1 rfl (by decide) ?_
  refine rj_cSx (rest := []) (sX11_needPlace (g := g) (ω := ω) hω μ a0 4   ) gX11_walk_X11_needPlace rfl hSX11_needPlace ⟨Nat.le_of_ble_eq_true rfl, Nat.le_of_ble_eq_true rfl⟩ dX11_walk_2 rfl rfl rfl (Nat.le_of_ble_eq_true rfl) rfl (Nat.le_of_ble_eq_true rfl) (fun E hE2 => ?_) (fun hx1 => ?_)
  · exact ⟨(by unfold fX11_walk; try (rw [hE2]); try (simp only [rj_bx]); try rfl), rfl, rfl⟩
  · refine rj_iload_n 2 dX11_walk_5 rfl rfl ?_
    refine rj_iconst (v := 4) dX11_walk_6 rfl (by decide) ?_
    refine rj_cSx (rest := []) (sX11_needPlace (g := g) (ω := ω) hω μ a1 4   ) gX11_walk_X11_needPlace rfl hSX11_needPlace ⟨Nat.le_of_ble_eq_true rfl, Nat.le_of_ble_eq_true rfl⟩ dX11_walk_7 rfl rfl rfl (Nat.le_of_ble_eq_true rfl) rfl (Nat.le_of_ble_eq_true rfl) (fun E hE4 => ?_) (fun hx3 => ?_)
    · exact ⟨(by unfold fX11_walk; try (rw [hx1]); try (simp only [rj_bx]); try (rw [hE4]); try (simp only [rj_bx]); try rfl), rfl, rfl⟩
    · refine rj_aload_n 0 dX11_walk_10 rfl rfl ?_
      refine rj_getR (C0 := RX11) (T := TX11) (N := 6) (j := 0) (r := 1) dX11_walk_11 rfl vX11_walk_11 rfl (rj_lt hω (k := 0) rfl) (rj_sh hω ly_0) (by decide) kX11_walk_12 rfl ?_
      refine rj_getR (C0 := RX5) (T := TX5) (N := 8) (j := 1) (r := 3) dX11_walk_14 rfl vX11_walk_5 rfl (rj_lt hω (k := 1) rfl) (rj_sh hω ly_1) (by decide) kX11_walk_22 rfl ?_
      refine rj_iload_n 1 dX11_walk_17 rfl rfl ?_
      refine rj_iload_n 2 dX11_walk_18 rfl rfl ?_
      refine rj_cV (rest := []) (sX4_minutesBetween (g := g) (ω := ω) hω μ a0 a1   ) gX11_walk_X4_minutesBetween (rj_lt hω (k := 3) rfl) (rj_sh hω ly_3) rfl rfl hVX4_minutesBetween ⟨Nat.le_of_ble_eq_true rfl, Nat.le_of_ble_eq_true rfl⟩ dX11_walk_19 rfl rfl rfl (Nat.le_of_ble_eq_true rfl) rfl (Nat.le_of_ble_eq_true rfl) rfl ?_
      exact rj_iret dX11_walk_22 rfl (Nat.le_of_ble_eq_true rfl) (Nat.le_of_ble_eq_true rfl) ⟨(by unfold fX11_walk; try (rw [hx1]); try (simp only [rj_bx]); try (rw [hx3]); try (simp only [rj_bx]); try rfl), rfl, rfl⟩
theorem hSX11_acts : yX11_acts.cls ≠ "java/lang/invoke/MethodHandle" ∧ yX11_acts.cls ≠ "java/lang/invoke/VarHandle" ∧ (parseMethodDescriptor yX11_acts.desc).map (fun d => d.parameters.length) = some 0 := by decide +kernel
theorem hVX11_acts : yX11_acts.cls = RX11 ∧ yX11_acts.cls ≠ "java/lang/invoke/MethodHandle" ∧ yX11_acts.cls ≠ "java/lang/invoke/VarHandle" ∧ (parseMethodDescriptor yX11_acts.desc).map (fun d => d.parameters.length) = some 0 := by decide +kernel
theorem vX11_acts_11 : ∀ w ∈ u_ws RX11 TX11 6, w ∈ wsX11_acts := by decide +kernel
theorem kX11_acts_12 : Cond.fieldLink RX11 12 (TX11 0).1 (TX11 0).2.1 (TX11 0).2.2.1 ∈ wsX11_acts := by decide +kernel
theorem vX11_acts_5 : ∀ w ∈ u_ws RX5 TX5 8, w ∈ wsX11_acts := by decide +kernel
theorem kX11_acts_26 : Cond.fieldLink RX11 26 (TX5 2).1 (TX5 2).2.1 (TX5 2).2.2.1 ∈ wsX11_acts := by decide +kernel
def fX11_acts (μ : rj_M) : Int32 := (fJ6_bitCount_0f7a4 μ (fX7_numbers μ))
set_option maxHeartbeats 4000000 in
set_option maxRecDepth 100000 in
theorem sX11_acts {g : rj_G} {ω : rj_W} (hω : rj_ok ω) (μ : rj_M)   : rj_Sp g yX11_acts wsX11_acts (rj_rm 2 0) [.ref (ω.2.2 0)] ω μ (rj_D (.inl (some (.int (fX11_acts μ)))) ω μ) := by
  refine rj_of' (cc := cX11_acts) (nL := 1) (ret := (some .int)) (own := RX11) (l0 := [(0, .ref (ω.2.2 0))]) rfl (by decide +kernel) rfl (Nat.le_of_ble_eq_true rfl) rfl ?_
  refine rj_aload_n 0 dX11_acts_0 rfl rfl ?_
  refine rj_getR (C0 := RX11) (T := TX11) (N := 6) (j := 0) (r := 1) dX11_acts_1 rfl vX11_acts_11 rfl (rj_lt hω (k := 0) rfl) (rj_sh hω ly_0) (by decide) kX11_acts_12 rfl ?_
  refine rj_getR (C0 := RX5) (T := TX5) (N := 8) (j := 2) (r := 8) dX11_acts_4 rfl vX11_acts_5 rfl (rj_lt hω (k := 1) rfl) (rj_sh hω ly_1) (by decide) kX11_acts_26 rfl ?_
  refine rj_cV (rest := []) (sX7_numbers (g := g) (ω := ω) hω μ   ) gX11_acts_X7_numbers (rj_lt hω (k := 8) rfl) (rj_sh hω ly_8) rfl rfl hVX7_numbers ⟨Nat.le_of_ble_eq_true rfl, Nat.le_of_ble_eq_true rfl⟩ dX11_acts_7 rfl rfl rfl (Nat.le_of_ble_eq_true rfl) rfl (Nat.le_of_ble_eq_true rfl) rfl ?_
  refine rj_cS (rest := []) (sJ6_bitCount_0f7a4 (g := g) (ω := ω) μ (fX7_numbers μ)   ) gX11_acts_J6_bitCount_0f7a4 rfl hSJ6_bitCount_0f7a4 ⟨Nat.le_of_ble_eq_true rfl, Nat.le_of_ble_eq_true rfl⟩ dX11_acts_10 rfl rfl rfl (Nat.le_of_ble_eq_true rfl) rfl (Nat.le_of_ble_eq_true rfl) rfl ?_
  exact rj_iret dX11_acts_13 rfl (Nat.le_of_ble_eq_true rfl) (Nat.le_of_ble_eq_true rfl) ⟨(by unfold fX11_acts; rfl), rfl, rfl⟩
theorem hSX11_firstIn : yX11_firstIn.cls ≠ "java/lang/invoke/MethodHandle" ∧ yX11_firstIn.cls ≠ "java/lang/invoke/VarHandle" ∧ (parseMethodDescriptor yX11_firstIn.desc).map (fun d => d.parameters.length) = some 3 := by decide +kernel
theorem hVX11_firstIn : yX11_firstIn.cls = RX11 ∧ yX11_firstIn.cls ≠ "java/lang/invoke/MethodHandle" ∧ yX11_firstIn.cls ≠ "java/lang/invoke/VarHandle" ∧ (parseMethodDescriptor yX11_firstIn.desc).map (fun d => d.parameters.length) = some 3 := by decide +kernel
theorem vX11_firstIn_11 : ∀ w ∈ u_ws RX11 TX11 6, w ∈ wsX11_firstIn := by decide +kernel
theorem kX11_firstIn_12 : Cond.fieldLink RX11 12 (TX11 0).1 (TX11 0).2.1 (TX11 0).2.2.1 ∈ wsX11_firstIn := by decide +kernel
theorem vX11_firstIn_5 : ∀ w ∈ u_ws RX5 TX5 8, w ∈ wsX11_firstIn := by decide +kernel
theorem kX11_firstIn_26 : Cond.fieldLink RX11 26 (TX5 2).1 (TX5 2).2.1 (TX5 2).2.2.1 ∈ wsX11_firstIn := by decide +kernel
theorem xkX11_firstIn_57 : Cond.classLink RX11 57 "java/lang/IllegalArgumentException" ∈ wsX11_firstIn := by decide +kernel
theorem xiX11_firstIn_57 : Cond.initialized "java/lang/IllegalArgumentException" ∈ wsX11_firstIn := by decide +kernel
theorem xaX11_firstIn_61 : ∀ w ∈ (vx_atS RX11 61 "java/lang/IllegalArgumentException" rj_exn).filter goodWord, w ∈ wsX11_firstIn := by decide +kernel
theorem xbX11_firstIn_61 : ∀ w ∈ (vx_atS RX11 61 "java/lang/IllegalArgumentException" rj_exn).filter (fun w => !goodWord w), w ∈ Cond.castable "java/lang/IllegalArgumentException" "java/lang/IllegalArgumentException" :: rj_dc.map Cond.declares := by decide +kernel
theorem xgX11_firstIn_61 : ∀ w ∈ Cond.classLink RX11 57 "java/lang/IllegalArgumentException" :: Cond.initialized "java/lang/IllegalArgumentException" :: vx_atS RX11 61 "java/lang/IllegalArgumentException" rj_exn, vx_ot w = true := by decide +kernel
def fX11_firstIn (μ : rj_M) (a0 : Int32) (a1 : Int32) (a2 : Int32) : Int32 ⊕ String := (rj_bx (fX11_needPlace μ a0 4) (if a1 ≤ a2 then (.inl (fX7_earliest μ a0 a1 a2)) else (.inr "java/lang/IllegalArgumentException")))
set_option maxHeartbeats 4000000 in
set_option maxRecDepth 100000 in
theorem sX11_firstIn {g : rj_G} {ω : rj_W} (hω : rj_ok ω) (μ : rj_M) (a0 : Int32) (a1 : Int32) (a2 : Int32)   : rj_Sp g yX11_firstIn wsX11_firstIn (rj_rm 7 2) [.ref (ω.2.2 0), .int a0, .int a1, .int a2] ω μ (rj_D (rj_oi (fX11_firstIn μ a0 a1 a2)) ω μ) := by
  refine rj_of' (cc := cX11_firstIn) (nL := 4) (ret := (some .int)) (own := RX11) (l0 := [(0, .ref (ω.2.2 0)), (1, .int a0), (2, .int a1), (3, .int a2)]) rfl (by decide +kernel) rfl (Nat.le_of_ble_eq_true rfl) rfl ?_
  refine rj_iload_n 1 dX11_firstIn_0 rfl rfl ?_
  refine rj_iconst (v := 4) dX11_firstIn_1 rfl (by decide) ?_
  refine rj_cSx (rest := []) (sX11_needPlace (g := g) (ω := ω) hω μ a0 4   ) gX11_firstIn_X11_needPlace rfl hSX11_needPlace ⟨Nat.le_of_ble_eq_true rfl, Nat.le_of_ble_eq_true rfl⟩ dX11_firstIn_2 rfl rfl rfl (Nat.le_of_ble_eq_true rfl) rfl (Nat.le_of_ble_eq_true rfl) (fun E hE2 => ?_) (fun hx1 => ?_)
  · exact ⟨(by unfold fX11_firstIn; try (rw [hE2]); try (simp only [rj_bx]); try rfl), rfl, rfl⟩
  · refine rj_iload_n 2 dX11_firstIn_5 rfl rfl ?_
    refine rj_iload_n 3 dX11_firstIn_6 rfl rfl ?_
    refine rj_icmp_le dX11_firstIn_7 rfl rfl (fun h3 => ?_) (fun h3 => ?_)
    · refine rj_aload_n 0 dX11_firstIn_21 rfl rfl ?_
      refine rj_getR (C0 := RX11) (T := TX11) (N := 6) (j := 0) (r := 1) dX11_firstIn_22 rfl vX11_firstIn_11 rfl (rj_lt hω (k := 0) rfl) (rj_sh hω ly_0) (by decide) kX11_firstIn_12 rfl ?_
      refine rj_getR (C0 := RX5) (T := TX5) (N := 8) (j := 2) (r := 8) dX11_firstIn_25 rfl vX11_firstIn_5 rfl (rj_lt hω (k := 1) rfl) (rj_sh hω ly_1) (by decide) kX11_firstIn_26 rfl ?_
      refine rj_iload_n 1 dX11_firstIn_28 rfl rfl ?_
      refine rj_iload_n 2 dX11_firstIn_29 rfl rfl ?_
      refine rj_iload_n 3 dX11_firstIn_30 rfl rfl ?_
      refine rj_cV (rest := []) (sX7_earliest (g := g) (ω := ω) hω μ a0 a1 a2   ) gX11_firstIn_X7_earliest (rj_lt hω (k := 8) rfl) (rj_sh hω ly_8) rfl rfl hVX7_earliest ⟨Nat.le_of_ble_eq_true rfl, Nat.le_of_ble_eq_true rfl⟩ dX11_firstIn_31 rfl rfl rfl (Nat.le_of_ble_eq_true rfl) rfl (Nat.le_of_ble_eq_true rfl) rfl ?_
      exact rj_iret dX11_firstIn_34 rfl (Nat.le_of_ble_eq_true rfl) (Nat.le_of_ble_eq_true rfl) ⟨(by unfold fX11_firstIn; try (rw [hx1]); try (simp only [rj_bx]); try (rw [if_pos h3]); try rfl), rfl, rfl⟩
    · exact rj_throwW (cls := "java/lang/IllegalArgumentException") (text := "from is greater than to") dX11_firstIn_10 rfl dX11_firstIn_13 rfl dX11_firstIn_14 rfl dX11_firstIn_17 rfl dX11_firstIn_20 (by decide +kernel) xkX11_firstIn_57 xiX11_firstIn_57 (by decide +kernel) xaX11_firstIn_61 xbX11_firstIn_61 (by decide) xgX11_firstIn_61 (Nat.le_of_ble_eq_true rfl) (Nat.le_of_ble_eq_true rfl) (Nat.le_of_ble_eq_true rfl) ⟨(by unfold fX11_firstIn; try (rw [hx1]); try (simp only [rj_bx]); try (rw [if_neg h3]); try rfl), rfl, rfl⟩
theorem hSX11_clash : yX11_clash.cls ≠ "java/lang/invoke/MethodHandle" ∧ yX11_clash.cls ≠ "java/lang/invoke/VarHandle" ∧ (parseMethodDescriptor yX11_clash.desc).map (fun d => d.parameters.length) = some 2 := by decide +kernel
theorem hVX11_clash : yX11_clash.cls = RX11 ∧ yX11_clash.cls ≠ "java/lang/invoke/MethodHandle" ∧ yX11_clash.cls ≠ "java/lang/invoke/VarHandle" ∧ (parseMethodDescriptor yX11_clash.desc).map (fun d => d.parameters.length) = some 2 := by decide +kernel
theorem vX11_clash_11 : ∀ w ∈ u_ws RX11 TX11 6, w ∈ wsX11_clash := by decide +kernel
theorem kX11_clash_12 : Cond.fieldLink RX11 12 (TX11 0).1 (TX11 0).2.1 (TX11 0).2.2.1 ∈ wsX11_clash := by decide +kernel
theorem vX11_clash_5 : ∀ w ∈ u_ws RX5 TX5 8, w ∈ wsX11_clash := by decide +kernel
theorem kX11_clash_26 : Cond.fieldLink RX11 26 (TX5 2).1 (TX5 2).2.1 (TX5 2).2.2.1 ∈ wsX11_clash := by decide +kernel
def fX11_clash (μ : rj_M) (a0 : Int32) (a1 : Int32) : Int32 ⊕ String := (rj_bx (fX11_needAct μ a0) (rj_bx (fX11_needAct μ a1) (rj_bx (fX11_needOthers μ a0 a1) (.inl (fX7_areFoes μ a0 a1)))))
set_option maxHeartbeats 4000000 in
set_option maxRecDepth 100000 in
theorem sX11_clash {g : rj_G} {ω : rj_W} (hω : rj_ok ω) (μ : rj_M) (a0 : Int32) (a1 : Int32)   : rj_Sp g yX11_clash wsX11_clash (rj_rm 7 3) [.ref (ω.2.2 0), .int a0, .int a1] ω μ (rj_D (rj_oi (fX11_clash μ a0 a1)) ω μ) := by
  refine rj_of' (cc := cX11_clash) (nL := 3) (ret := (some .boolean)) (own := RX11) (l0 := [(0, .ref (ω.2.2 0)), (1, .int a0), (2, .int a1)]) rfl (by decide +kernel) rfl (Nat.le_of_ble_eq_true rfl) rfl ?_
  refine rj_aload_n 0 dX11_clash_0 rfl rfl ?_
  refine rj_iload_n 1 dX11_clash_1 rfl rfl ?_
  refine rj_cVx (rest := []) (sX11_needAct (g := g) (ω := ω) hω μ a0   ) gX11_clash_X11_needAct (rj_lt hω (k := 0) rfl) (rj_sh hω ly_0) rfl rfl hVX11_needAct ⟨Nat.le_of_ble_eq_true rfl, Nat.le_of_ble_eq_true rfl⟩ dX11_clash_2 rfl rfl rfl (Nat.le_of_ble_eq_true rfl) rfl (Nat.le_of_ble_eq_true rfl) (fun E hE2 => ?_) (fun hx1 => ?_)
  · exact ⟨(by unfold fX11_clash; try (rw [hE2]); try (simp only [rj_bx]); try rfl), rfl, rfl⟩
  · refine rj_aload_n 0 dX11_clash_5 rfl rfl ?_
    refine rj_iload_n 2 dX11_clash_6 rfl rfl ?_
    refine rj_cVx (rest := []) (sX11_needAct (g := g) (ω := ω) hω μ a1   ) gX11_clash_X11_needAct (rj_lt hω (k := 0) rfl) (rj_sh hω ly_0) rfl rfl hVX11_needAct ⟨Nat.le_of_ble_eq_true rfl, Nat.le_of_ble_eq_true rfl⟩ dX11_clash_7 rfl rfl rfl (Nat.le_of_ble_eq_true rfl) rfl (Nat.le_of_ble_eq_true rfl) (fun E hE4 => ?_) (fun hx3 => ?_)
    · exact ⟨(by unfold fX11_clash; try (rw [hx1]); try (simp only [rj_bx]); try (rw [hE4]); try (simp only [rj_bx]); try rfl), rfl, rfl⟩
    · refine rj_iload_n 1 dX11_clash_10 rfl rfl ?_
      refine rj_iload_n 2 dX11_clash_11 rfl rfl ?_
      refine rj_cSx (rest := []) (sX11_needOthers (g := g) (ω := ω) hω μ a0 a1   ) gX11_clash_X11_needOthers rfl hSX11_needOthers ⟨Nat.le_of_ble_eq_true rfl, Nat.le_of_ble_eq_true rfl⟩ dX11_clash_12 rfl rfl rfl (Nat.le_of_ble_eq_true rfl) rfl (Nat.le_of_ble_eq_true rfl) (fun E hE6 => ?_) (fun hx5 => ?_)
      · exact ⟨(by unfold fX11_clash; try (rw [hx1]); try (simp only [rj_bx]); try (rw [hx3]); try (simp only [rj_bx]); try (rw [hE6]); try (simp only [rj_bx]); try rfl), rfl, rfl⟩
      · refine rj_aload_n 0 dX11_clash_15 rfl rfl ?_
        refine rj_getR (C0 := RX11) (T := TX11) (N := 6) (j := 0) (r := 1) dX11_clash_16 rfl vX11_clash_11 rfl (rj_lt hω (k := 0) rfl) (rj_sh hω ly_0) (by decide) kX11_clash_12 rfl ?_
        refine rj_getR (C0 := RX5) (T := TX5) (N := 8) (j := 2) (r := 8) dX11_clash_19 rfl vX11_clash_5 rfl (rj_lt hω (k := 1) rfl) (rj_sh hω ly_1) (by decide) kX11_clash_26 rfl ?_
        refine rj_iload_n 1 dX11_clash_22 rfl rfl ?_
        refine rj_iload_n 2 dX11_clash_23 rfl rfl ?_
        refine rj_cV (rest := []) (sX7_areFoes (g := g) (ω := ω) hω μ a0 a1   ) gX11_clash_X7_areFoes (rj_lt hω (k := 8) rfl) (rj_sh hω ly_8) rfl rfl hVX7_areFoes ⟨Nat.le_of_ble_eq_true rfl, Nat.le_of_ble_eq_true rfl⟩ dX11_clash_24 rfl rfl rfl (Nat.le_of_ble_eq_true rfl) rfl (Nat.le_of_ble_eq_true rfl) rfl ?_
        exact rj_zret dX11_clash_27 rfl (nX7_areFoes ..) (Nat.le_of_ble_eq_true rfl) (Nat.le_of_ble_eq_true rfl) ⟨(by unfold fX11_clash; try (rw [hx1]); try (simp only [rj_bx]); try (rw [hx3]); try (simp only [rj_bx]); try (rw [hx5]); try (simp only [rj_bx]); try rfl), rfl, rfl⟩
theorem hSX11_clashes : yX11_clashes.cls ≠ "java/lang/invoke/MethodHandle" ∧ yX11_clashes.cls ≠ "java/lang/invoke/VarHandle" ∧ (parseMethodDescriptor yX11_clashes.desc).map (fun d => d.parameters.length) = some 0 := by decide +kernel
theorem hVX11_clashes : yX11_clashes.cls = RX11 ∧ yX11_clashes.cls ≠ "java/lang/invoke/MethodHandle" ∧ yX11_clashes.cls ≠ "java/lang/invoke/VarHandle" ∧ (parseMethodDescriptor yX11_clashes.desc).map (fun d => d.parameters.length) = some 0 := by decide +kernel
theorem vX11_clashes_11 : ∀ w ∈ u_ws RX11 TX11 6, w ∈ wsX11_clashes := by decide +kernel
theorem kX11_clashes_12 : Cond.fieldLink RX11 12 (TX11 0).1 (TX11 0).2.1 (TX11 0).2.2.1 ∈ wsX11_clashes := by decide +kernel
theorem vX11_clashes_5 : ∀ w ∈ u_ws RX5 TX5 8, w ∈ wsX11_clashes := by decide +kernel
theorem kX11_clashes_26 : Cond.fieldLink RX11 26 (TX5 2).1 (TX5 2).2.1 (TX5 2).2.2.1 ∈ wsX11_clashes := by decide +kernel
def fX11_clashes (μ : rj_M) : Int32 := (fX7_countFoes μ)
set_option maxHeartbeats 4000000 in
set_option maxRecDepth 100000 in
theorem sX11_clashes {g : rj_G} {ω : rj_W} (hω : rj_ok ω) (μ : rj_M)   : rj_Sp g yX11_clashes wsX11_clashes (rj_rm 5 0) [.ref (ω.2.2 0)] ω μ (rj_D (.inl (some (.int (fX11_clashes μ)))) ω μ) := by
  refine rj_of' (cc := cX11_clashes) (nL := 1) (ret := (some .int)) (own := RX11) (l0 := [(0, .ref (ω.2.2 0))]) rfl (by decide +kernel) rfl (Nat.le_of_ble_eq_true rfl) rfl ?_
  refine rj_aload_n 0 dX11_clashes_0 rfl rfl ?_
  refine rj_getR (C0 := RX11) (T := TX11) (N := 6) (j := 0) (r := 1) dX11_clashes_1 rfl vX11_clashes_11 rfl (rj_lt hω (k := 0) rfl) (rj_sh hω ly_0) (by decide) kX11_clashes_12 rfl ?_
  refine rj_getR (C0 := RX5) (T := TX5) (N := 8) (j := 2) (r := 8) dX11_clashes_4 rfl vX11_clashes_5 rfl (rj_lt hω (k := 1) rfl) (rj_sh hω ly_1) (by decide) kX11_clashes_26 rfl ?_
  refine rj_cV (rest := []) (sX7_countFoes (g := g) (ω := ω) hω μ   ) gX11_clashes_X7_countFoes (rj_lt hω (k := 8) rfl) (rj_sh hω ly_8) rfl rfl hVX7_countFoes ⟨Nat.le_of_ble_eq_true rfl, Nat.le_of_ble_eq_true rfl⟩ dX11_clashes_7 rfl rfl rfl (Nat.le_of_ble_eq_true rfl) rfl (Nat.le_of_ble_eq_true rfl) rfl ?_
  exact rj_iret dX11_clashes_10 rfl (Nat.le_of_ble_eq_true rfl) (Nat.le_of_ble_eq_true rfl) ⟨(by unfold fX11_clashes; rfl), rfl, rfl⟩
theorem hSX11_evening : yX11_evening.cls ≠ "java/lang/invoke/MethodHandle" ∧ yX11_evening.cls ≠ "java/lang/invoke/VarHandle" ∧ (parseMethodDescriptor yX11_evening.desc).map (fun d => d.parameters.length) = some 2 := by decide +kernel
theorem hVX11_evening : yX11_evening.cls = RX11 ∧ yX11_evening.cls ≠ "java/lang/invoke/MethodHandle" ∧ yX11_evening.cls ≠ "java/lang/invoke/VarHandle" ∧ (parseMethodDescriptor yX11_evening.desc).map (fun d => d.parameters.length) = some 2 := by decide +kernel
theorem vX11_evening_11 : ∀ w ∈ u_ws RX11 TX11 6, w ∈ wsX11_evening := by decide +kernel
theorem kX11_evening_33 : Cond.fieldLink RX11 33 (TX11 2).1 (TX11 2).2.1 (TX11 2).2.2.1 ∈ wsX11_evening := by decide +kernel
def fX11_evening (μ : rj_M) (a0 : Int32) (a1 : Int32) : Int32 ⊕ String := (rj_bx (fX11_needPlace μ a0 12) (rj_bx (fX11_needPlace μ a1 4) (.inl (fX2_weightOn (mX2_planFor μ a0) a1))))
def mX11_evening (μ : rj_M) (a0 : Int32) (a1 : Int32) : rj_M := (rj_bm (fX11_needPlace μ a0 12) (rj_bm (fX11_needPlace μ a1 4) (mX2_planFor μ a0) μ) μ)
set_option maxHeartbeats 4000000 in
set_option maxRecDepth 100000 in
theorem sX11_evening {g : rj_G} {ω : rj_W} (hω : rj_ok ω) (μ : rj_M) (a0 : Int32) (a1 : Int32)   : rj_Sp g yX11_evening wsX11_evening (rj_rm 7 2) [.ref (ω.2.2 0), .int a0, .int a1] ω μ (rj_D (rj_oi (fX11_evening μ a0 a1)) ω (mX11_evening μ a0 a1)) := by
  refine rj_of' (cc := cX11_evening) (nL := 3) (ret := (some .int)) (own := RX11) (l0 := [(0, .ref (ω.2.2 0)), (1, .int a0), (2, .int a1)]) rfl (by decide +kernel) rfl (Nat.le_of_ble_eq_true rfl) rfl ?_
  refine rj_iload_n 1 dX11_evening_0 rfl rfl ?_
  refine rj_bipush (v := 12) dX11_evening_1 rfl (by decide) ?_
  refine rj_cSx (rest := []) (sX11_needPlace (g := g) (ω := ω) hω μ a0 12   ) gX11_evening_X11_needPlace rfl hSX11_needPlace ⟨Nat.le_of_ble_eq_true rfl, Nat.le_of_ble_eq_true rfl⟩ dX11_evening_3 rfl rfl rfl (Nat.le_of_ble_eq_true rfl) rfl (Nat.le_of_ble_eq_true rfl) (fun E hE2 => ?_) (fun hx1 => ?_)
  · exact ⟨(by unfold fX11_evening; try (rw [hE2]); try (simp only [rj_bx]); try rfl), rfl, (by unfold mX11_evening; try (rw [hE2]); try (simp only [rj_bm]); try rfl)⟩
  · refine rj_iload_n 2 dX11_evening_6 rfl rfl ?_
    refine rj_iconst (v := 4) dX11_evening_7 rfl (by decide) ?_
    refine rj_cSx (rest := []) (sX11_needPlace (g := g) (ω := ω) hω μ a1 4   ) gX11_evening_X11_needPlace rfl hSX11_needPlace ⟨Nat.le_of_ble_eq_true rfl, Nat.le_of_ble_eq_true rfl⟩ dX11_evening_8 rfl rfl rfl (Nat.le_of_ble_eq_true rfl) rfl (Nat.le_of_ble_eq_true rfl) (fun E hE4 => ?_) (fun hx3 => ?_)
    · exact ⟨(by unfold fX11_evening; try (rw [hx1]); try (simp only [rj_bx]); try (rw [hE4]); try (simp only [rj_bx]); try rfl), rfl, (by unfold mX11_evening; try (rw [hx1]); try (simp only [rj_bm]); try (rw [hE4]); try (simp only [rj_bm]); try rfl)⟩
    · refine rj_aload_n 0 dX11_evening_11 rfl rfl ?_
      refine rj_getR (C0 := RX11) (T := TX11) (N := 6) (j := 2) (r := 45) dX11_evening_12 rfl vX11_evening_11 rfl (rj_lt hω (k := 0) rfl) (rj_sh hω ly_0) (by decide) kX11_evening_33 rfl ?_
      refine rj_iload_n 1 dX11_evening_15 rfl rfl ?_
      refine rj_cV (rest := []) (sX2_planFor (g := g) (ω := ω) hω μ a0   ) gX11_evening_X2_planFor (rj_lt hω (k := 45) rfl) (rj_sh hω ly_45) rfl rfl hVX2_planFor ⟨Nat.le_of_ble_eq_true rfl, Nat.le_of_ble_eq_true rfl⟩ dX11_evening_16 rfl rfl rfl (Nat.le_of_ble_eq_true rfl) rfl (Nat.le_of_ble_eq_true rfl) rfl ?_
      refine rj_aload_n 0 dX11_evening_19 rfl rfl ?_
      refine rj_getR (C0 := RX11) (T := TX11) (N := 6) (j := 2) (r := 45) dX11_evening_20 rfl vX11_evening_11 rfl (rj_lt hω (k := 0) rfl) (rj_sh hω ly_0) (by decide) kX11_evening_33 rfl ?_
      refine rj_iload_n 2 dX11_evening_23 rfl rfl ?_
      refine rj_cV (rest := []) (sX2_weightOn (g := g) (ω := ω) hω (mX2_planFor μ a0) a1   ) gX11_evening_X2_weightOn (rj_lt hω (k := 45) rfl) (rj_sh hω ly_45) rfl rfl hVX2_weightOn ⟨Nat.le_of_ble_eq_true rfl, Nat.le_of_ble_eq_true rfl⟩ dX11_evening_24 rfl rfl rfl (Nat.le_of_ble_eq_true rfl) rfl (Nat.le_of_ble_eq_true rfl) rfl ?_
      exact rj_iret dX11_evening_27 rfl (Nat.le_of_ble_eq_true rfl) (Nat.le_of_ble_eq_true rfl) ⟨(by unfold fX11_evening; try (rw [hx1]); try (simp only [rj_bx]); try (rw [hx3]); try (simp only [rj_bx]); try rfl), rfl, (by unfold mX11_evening; try (rw [hx1]); try (simp only [rj_bm]); try (rw [hx3]); try (simp only [rj_bm]); try rfl)⟩
theorem hSX11_eveningAct : yX11_eveningAct.cls ≠ "java/lang/invoke/MethodHandle" ∧ yX11_eveningAct.cls ≠ "java/lang/invoke/VarHandle" ∧ (parseMethodDescriptor yX11_eveningAct.desc).map (fun d => d.parameters.length) = some 3 := by decide +kernel
theorem hVX11_eveningAct : yX11_eveningAct.cls = RX11 ∧ yX11_eveningAct.cls ≠ "java/lang/invoke/MethodHandle" ∧ yX11_eveningAct.cls ≠ "java/lang/invoke/VarHandle" ∧ (parseMethodDescriptor yX11_eveningAct.desc).map (fun d => d.parameters.length) = some 3 := by decide +kernel
theorem vX11_eveningAct_11 : ∀ w ∈ u_ws RX11 TX11 6, w ∈ wsX11_eveningAct := by decide +kernel
theorem kX11_eveningAct_33 : Cond.fieldLink RX11 33 (TX11 2).1 (TX11 2).2.1 (TX11 2).2.2.1 ∈ wsX11_eveningAct := by decide +kernel
theorem xkX11_eveningAct_267 : Cond.classLink RX11 267 "java/util/NoSuchElementException" ∈ wsX11_eveningAct := by decide +kernel
theorem xiX11_eveningAct_267 : Cond.initialized "java/util/NoSuchElementException" ∈ wsX11_eveningAct := by decide +kernel
theorem xaX11_eveningAct_271 : ∀ w ∈ (vx_wdN).filter goodWord, w ∈ wsX11_eveningAct := by decide +kernel
theorem xbX11_eveningAct_271 : ∀ w ∈ (vx_wdN).filter (fun w => !goodWord w), w ∈ Cond.castable "java/util/NoSuchElementException" "java/util/NoSuchElementException" :: rj_dc.map Cond.declares := by decide +kernel
theorem xgX11_eveningAct_271 : ∀ w ∈ Cond.classLink RX11 267 "java/util/NoSuchElementException" :: Cond.initialized "java/util/NoSuchElementException" :: vx_wdN, vx_ot w = true := by decide +kernel
def fX11_eveningAct (μ : rj_M) (a0 : Int32) (a1 : Int32) (a2 : Int32) : Int32 ⊕ String := (rj_bx (fX11_needPlace μ a0 12) (rj_bx (fX11_needPlace μ a1 4) (if (fX2_actOn (mX2_planFor μ a0) a1 a2) = (-1) then (.inr "java/util/NoSuchElementException") else (.inl (fX2_actOn (mX2_planFor μ a0) a1 a2)))))
def mX11_eveningAct (μ : rj_M) (a0 : Int32) (a1 : Int32) (a2 : Int32) : rj_M := (rj_bm (fX11_needPlace μ a0 12) (rj_bm (fX11_needPlace μ a1 4) (if (fX2_actOn (mX2_planFor μ a0) a1 a2) = (-1) then (mX2_planFor μ a0) else (mX2_planFor μ a0)) μ) μ)
set_option maxHeartbeats 4000000 in
set_option maxRecDepth 100000 in
theorem sX11_eveningAct {g : rj_G} {ω : rj_W} (hω : rj_ok ω) (μ : rj_M) (a0 : Int32) (a1 : Int32) (a2 : Int32)   : rj_Sp g yX11_eveningAct wsX11_eveningAct (rj_rm 7 3) [.ref (ω.2.2 0), .int a0, .int a1, .int a2] ω μ (rj_D (rj_oi (fX11_eveningAct μ a0 a1 a2)) ω (mX11_eveningAct μ a0 a1 a2)) := by
  refine rj_of' (cc := cX11_eveningAct) (nL := 5) (ret := (some .int)) (own := RX11) (l0 := [(0, .ref (ω.2.2 0)), (1, .int a0), (2, .int a1), (3, .int a2)]) rfl (by decide +kernel) rfl (Nat.le_of_ble_eq_true rfl) rfl ?_
  refine rj_iload_n 1 dX11_eveningAct_0 rfl rfl ?_
  refine rj_bipush (v := 12) dX11_eveningAct_1 rfl (by decide) ?_
  refine rj_cSx (rest := []) (sX11_needPlace (g := g) (ω := ω) hω μ a0 12   ) gX11_eveningAct_X11_needPlace rfl hSX11_needPlace ⟨Nat.le_of_ble_eq_true rfl, Nat.le_of_ble_eq_true rfl⟩ dX11_eveningAct_3 rfl rfl rfl (Nat.le_of_ble_eq_true rfl) rfl (Nat.le_of_ble_eq_true rfl) (fun E hE2 => ?_) (fun hx1 => ?_)
  · exact ⟨(by unfold fX11_eveningAct; try (rw [hE2]); try (simp only [rj_bx]); try rfl), rfl, (by unfold mX11_eveningAct; try (rw [hE2]); try (simp only [rj_bm]); try rfl)⟩
  · refine rj_iload_n 2 dX11_eveningAct_6 rfl rfl ?_
    refine rj_iconst (v := 4) dX11_eveningAct_7 rfl (by decide) ?_
    refine rj_cSx (rest := []) (sX11_needPlace (g := g) (ω := ω) hω μ a1 4   ) gX11_eveningAct_X11_needPlace rfl hSX11_needPlace ⟨Nat.le_of_ble_eq_true rfl, Nat.le_of_ble_eq_true rfl⟩ dX11_eveningAct_8 rfl rfl rfl (Nat.le_of_ble_eq_true rfl) rfl (Nat.le_of_ble_eq_true rfl) (fun E hE4 => ?_) (fun hx3 => ?_)
    · exact ⟨(by unfold fX11_eveningAct; try (rw [hx1]); try (simp only [rj_bx]); try (rw [hE4]); try (simp only [rj_bx]); try rfl), rfl, (by unfold mX11_eveningAct; try (rw [hx1]); try (simp only [rj_bm]); try (rw [hE4]); try (simp only [rj_bm]); try rfl)⟩
    · refine rj_aload_n 0 dX11_eveningAct_11 rfl rfl ?_
      refine rj_getR (C0 := RX11) (T := TX11) (N := 6) (j := 2) (r := 45) dX11_eveningAct_12 rfl vX11_eveningAct_11 rfl (rj_lt hω (k := 0) rfl) (rj_sh hω ly_0) (by decide) kX11_eveningAct_33 rfl ?_
      refine rj_iload_n 1 dX11_eveningAct_15 rfl rfl ?_
      refine rj_cV (rest := []) (sX2_planFor (g := g) (ω := ω) hω μ a0   ) gX11_eveningAct_X2_planFor (rj_lt hω (k := 45) rfl) (rj_sh hω ly_45) rfl rfl hVX2_planFor ⟨Nat.le_of_ble_eq_true rfl, Nat.le_of_ble_eq_true rfl⟩ dX11_eveningAct_16 rfl rfl rfl (Nat.le_of_ble_eq_true rfl) rfl (Nat.le_of_ble_eq_true rfl) rfl ?_
      refine rj_aload_n 0 dX11_eveningAct_19 rfl rfl ?_
      refine rj_getR (C0 := RX11) (T := TX11) (N := 6) (j := 2) (r := 45) dX11_eveningAct_20 rfl vX11_eveningAct_11 rfl (rj_lt hω (k := 0) rfl) (rj_sh hω ly_0) (by decide) kX11_eveningAct_33 rfl ?_
      refine rj_iload_n 2 dX11_eveningAct_23 rfl rfl ?_
      refine rj_iload_n 3 dX11_eveningAct_24 rfl rfl ?_
      refine rj_cV (rest := []) (sX2_actOn (g := g) (ω := ω) hω (mX2_planFor μ a0) a1 a2   ) gX11_eveningAct_X2_actOn (rj_lt hω (k := 45) rfl) (rj_sh hω ly_45) rfl rfl hVX2_actOn ⟨Nat.le_of_ble_eq_true rfl, Nat.le_of_ble_eq_true rfl⟩ dX11_eveningAct_25 rfl rfl rfl (Nat.le_of_ble_eq_true rfl) rfl (Nat.le_of_ble_eq_true rfl) rfl ?_
      refine rj_istore (l' := [(4, .int (fX2_actOn (mX2_planFor μ a0) a1 a2)), (0, .ref (ω.2.2 0)), (1, .int a0), (2, .int a1), (3, .int a2)]) dX11_eveningAct_28 rfl (rj_bl rfl) rfl ?_
      refine rj_iload 0 dX11_eveningAct_30 rfl rfl ?_
      refine rj_iconst (v := (-1)) dX11_eveningAct_32 rfl (by decide) ?_
      refine rj_icmp_ne dX11_eveningAct_33 rfl rfl (fun h5 => ?_) (fun h5 => ?_)
      · refine rj_iload 0 dX11_eveningAct_47 rfl rfl ?_
        exact rj_iret dX11_eveningAct_49 rfl (Nat.le_of_ble_eq_true rfl) (Nat.le_of_ble_eq_true rfl) ⟨(by unfold fX11_eveningAct; try (rw [hx1]); try (simp only [rj_bx]); try (rw [hx3]); try (simp only [rj_bx]); try (rw [if_neg h5]); try rfl), rfl, (by unfold mX11_eveningAct; try (rw [hx1]); try (simp only [rj_bm]); try (rw [hx3]); try (simp only [rj_bm]); try (rw [if_neg h5]); try rfl)⟩
      · exact rj_throwN (text := "the evening has no such place") dX11_eveningAct_36 rfl dX11_eveningAct_39 rfl dX11_eveningAct_40 rfl dX11_eveningAct_43 rfl dX11_eveningAct_46 (by decide +kernel) xkX11_eveningAct_267 xiX11_eveningAct_267 (by decide +kernel) xaX11_eveningAct_271 xbX11_eveningAct_271 (by decide) xgX11_eveningAct_271 (Nat.le_of_ble_eq_true rfl) (Nat.le_of_ble_eq_true rfl) (Nat.le_of_ble_eq_true rfl) ⟨(by unfold fX11_eveningAct; try (rw [hx1]); try (simp only [rj_bx]); try (rw [hx3]); try (simp only [rj_bx]); try (rw [if_pos h5]); try rfl), rfl, (by unfold mX11_eveningAct; try (rw [hx1]); try (simp only [rj_bm]); try (rw [hx3]); try (simp only [rj_bm]); try (rw [if_pos h5]); try rfl)⟩
theorem hSX11_price : yX11_price.cls ≠ "java/lang/invoke/MethodHandle" ∧ yX11_price.cls ≠ "java/lang/invoke/VarHandle" ∧ (parseMethodDescriptor yX11_price.desc).map (fun d => d.parameters.length) = some 2 := by decide +kernel
theorem hVX11_price : yX11_price.cls = RX11 ∧ yX11_price.cls ≠ "java/lang/invoke/MethodHandle" ∧ yX11_price.cls ≠ "java/lang/invoke/VarHandle" ∧ (parseMethodDescriptor yX11_price.desc).map (fun d => d.parameters.length) = some 2 := by decide +kernel
theorem vX11_price_11 : ∀ w ∈ u_ws RX11 TX11 6, w ∈ wsX11_price := by decide +kernel
theorem kX11_price_33 : Cond.fieldLink RX11 33 (TX11 2).1 (TX11 2).2.1 (TX11 2).2.2.1 ∈ wsX11_price := by decide +kernel
def fX11_price (μ : rj_M) (a0 : Int32) (a1 : Int32) : Int32 ⊕ String := (rj_bx (fX11_needPlace μ a0 12) (rj_bx (fX11_needAct μ a1) (.inl (fX2_priceOf (mX2_planFor μ a0) a1))))
def mX11_price (μ : rj_M) (a0 : Int32) (a1 : Int32) : rj_M := (rj_bm (fX11_needPlace μ a0 12) (rj_bm (fX11_needAct μ a1) (mX2_planFor μ a0) μ) μ)
set_option maxHeartbeats 4000000 in
set_option maxRecDepth 100000 in
theorem sX11_price {g : rj_G} {ω : rj_W} (hω : rj_ok ω) (μ : rj_M) (a0 : Int32) (a1 : Int32)   : rj_Sp g yX11_price wsX11_price (rj_rm 7 2) [.ref (ω.2.2 0), .int a0, .int a1] ω μ (rj_D (rj_oi (fX11_price μ a0 a1)) ω (mX11_price μ a0 a1)) := by
  refine rj_of' (cc := cX11_price) (nL := 3) (ret := (some .int)) (own := RX11) (l0 := [(0, .ref (ω.2.2 0)), (1, .int a0), (2, .int a1)]) rfl (by decide +kernel) rfl (Nat.le_of_ble_eq_true rfl) rfl ?_
  refine rj_iload_n 1 dX11_price_0 rfl rfl ?_
  refine rj_bipush (v := 12) dX11_price_1 rfl (by decide) ?_
  refine rj_cSx (rest := []) (sX11_needPlace (g := g) (ω := ω) hω μ a0 12   ) gX11_price_X11_needPlace rfl hSX11_needPlace ⟨Nat.le_of_ble_eq_true rfl, Nat.le_of_ble_eq_true rfl⟩ dX11_price_3 rfl rfl rfl (Nat.le_of_ble_eq_true rfl) rfl (Nat.le_of_ble_eq_true rfl) (fun E hE2 => ?_) (fun hx1 => ?_)
  · exact ⟨(by unfold fX11_price; try (rw [hE2]); try (simp only [rj_bx]); try rfl), rfl, (by unfold mX11_price; try (rw [hE2]); try (simp only [rj_bm]); try rfl)⟩
  · refine rj_aload_n 0 dX11_price_6 rfl rfl ?_
    refine rj_iload_n 2 dX11_price_7 rfl rfl ?_
    refine rj_cVx (rest := []) (sX11_needAct (g := g) (ω := ω) hω μ a1   ) gX11_price_X11_needAct (rj_lt hω (k := 0) rfl) (rj_sh hω ly_0) rfl rfl hVX11_needAct ⟨Nat.le_of_ble_eq_true rfl, Nat.le_of_ble_eq_true rfl⟩ dX11_price_8 rfl rfl rfl (Nat.le_of_ble_eq_true rfl) rfl (Nat.le_of_ble_eq_true rfl) (fun E hE4 => ?_) (fun hx3 => ?_)
    · exact ⟨(by unfold fX11_price; try (rw [hx1]); try (simp only [rj_bx]); try (rw [hE4]); try (simp only [rj_bx]); try rfl), rfl, (by unfold mX11_price; try (rw [hx1]); try (simp only [rj_bm]); try (rw [hE4]); try (simp only [rj_bm]); try rfl)⟩
    · refine rj_aload_n 0 dX11_price_11 rfl rfl ?_
      refine rj_getR (C0 := RX11) (T := TX11) (N := 6) (j := 2) (r := 45) dX11_price_12 rfl vX11_price_11 rfl (rj_lt hω (k := 0) rfl) (rj_sh hω ly_0) (by decide) kX11_price_33 rfl ?_
      refine rj_iload_n 1 dX11_price_15 rfl rfl ?_
      refine rj_cV (rest := []) (sX2_planFor (g := g) (ω := ω) hω μ a0   ) gX11_price_X2_planFor (rj_lt hω (k := 45) rfl) (rj_sh hω ly_45) rfl rfl hVX2_planFor ⟨Nat.le_of_ble_eq_true rfl, Nat.le_of_ble_eq_true rfl⟩ dX11_price_16 rfl rfl rfl (Nat.le_of_ble_eq_true rfl) rfl (Nat.le_of_ble_eq_true rfl) rfl ?_
      refine rj_aload_n 0 dX11_price_19 rfl rfl ?_
      refine rj_getR (C0 := RX11) (T := TX11) (N := 6) (j := 2) (r := 45) dX11_price_20 rfl vX11_price_11 rfl (rj_lt hω (k := 0) rfl) (rj_sh hω ly_0) (by decide) kX11_price_33 rfl ?_
      refine rj_iload_n 2 dX11_price_23 rfl rfl ?_
      refine rj_cV (rest := []) (sX2_priceOf (g := g) (ω := ω) hω (mX2_planFor μ a0) a1   ) gX11_price_X2_priceOf (rj_lt hω (k := 45) rfl) (rj_sh hω ly_45) rfl rfl hVX2_priceOf ⟨Nat.le_of_ble_eq_true rfl, Nat.le_of_ble_eq_true rfl⟩ dX11_price_24 rfl rfl rfl (Nat.le_of_ble_eq_true rfl) rfl (Nat.le_of_ble_eq_true rfl) rfl ?_
      exact rj_iret dX11_price_27 rfl (Nat.le_of_ble_eq_true rfl) (Nat.le_of_ble_eq_true rfl) ⟨(by unfold fX11_price; try (rw [hx1]); try (simp only [rj_bx]); try (rw [hx3]); try (simp only [rj_bx]); try rfl), rfl, (by unfold mX11_price; try (rw [hx1]); try (simp only [rj_bm]); try (rw [hx3]); try (simp only [rj_bm]); try rfl)⟩
theorem hSX11_listeners : yX11_listeners.cls ≠ "java/lang/invoke/MethodHandle" ∧ yX11_listeners.cls ≠ "java/lang/invoke/VarHandle" ∧ (parseMethodDescriptor yX11_listeners.desc).map (fun d => d.parameters.length) = some 2 := by decide +kernel
theorem hVX11_listeners : yX11_listeners.cls = RX11 ∧ yX11_listeners.cls ≠ "java/lang/invoke/MethodHandle" ∧ yX11_listeners.cls ≠ "java/lang/invoke/VarHandle" ∧ (parseMethodDescriptor yX11_listeners.desc).map (fun d => d.parameters.length) = some 2 := by decide +kernel
theorem vX11_listeners_11 : ∀ w ∈ u_ws RX11 TX11 6, w ∈ wsX11_listeners := by decide +kernel
theorem kX11_listeners_33 : Cond.fieldLink RX11 33 (TX11 2).1 (TX11 2).2.1 (TX11 2).2.2.1 ∈ wsX11_listeners := by decide +kernel
def bX11_listeners_18 (μ : rj_M) (a0 : Int32) (a1 : Int32) (j18 : Nat) (s18 : Int32 × rj_M) : (Int32 × rj_M) := (if (fX2_isAt (mX2_planFor s18.2 (nI j18)) a0 a1) = 0 then (s18.1, (mX2_planFor s18.2 (nI j18))) else (s18.1 + 1, (mX2_planFor s18.2 (nI j18))))
set_option maxHeartbeats 4000000 in
set_option maxRecDepth 100000 in
theorem lX11_listeners_18 {g : rj_G} {ω : rj_W} (hω : rj_ok ω) (μ : rj_M) (a0 : Int32) (a1 : Int32)     {F : rj_F} : ∀ (r j : Nat) (s : Int32 × rj_M), j + r = 12 → (rj_R g RX11 cX11_listeners 5 (some .int) wsX11_listeners [] (rj_rm 7 2) F 2 ω ((rj_fo (bX11_listeners_18 μ a0 a1) r j s).2) [(0, .ref (ω.2.2 0)), (1, .int a0), (2, .int a1), (3, .int ((rj_fo (bX11_listeners_18 μ a0 a1) r j s).1)), (4, .int (nI 12))] 55 []) → rj_R g RX11 cX11_listeners 5 (some .int) wsX11_listeners [] (rj_rm 7 2) F 2 ω s.2 [(0, .ref (ω.2.2 0)), (1, .int a0), (2, .int a1), (3, .int s.1), (4, .int (nI j))] 18 [] := by
  intro r
  induction r with
  | zero =>
    intro j s hj K
    have e0 : j = 12 := by omega
    have hge : 12 ≤ nI j := by
      rw [e0]
      exact Int32.le_refl _
    refine rj_iload 4 dX11_listeners_18 rfl rfl ?_
    refine rj_bipush (v := 12) dX11_listeners_20 rfl (by decide) ?_
    refine rj_icmp_ge dX11_listeners_22 rfl rfl (fun h7 => ?_) (fun h7 => ?_)
    · have e1 : nI j = nI 12 := by rw [e0]
      rw [e1]
      exact K
    · exact absurd hge h7
  | succ r ih =>
    intro j18 s18 hj K
    have hl18 : j18 < 12 := by omega
    have hg18 : ¬ 12 ≤ nI j18 := nI_ge hl18 (rj_bl rfl)
    refine rj_iload 4 dX11_listeners_18 rfl rfl ?_
    refine rj_bipush (v := 12) dX11_listeners_20 rfl (by decide) ?_
    refine rj_icmp_ge dX11_listeners_22 rfl rfl (fun h5 => ?_) (fun h5 => ?_)
    · exact absurd h5 hg18
    · refine rj_aload_n 0 dX11_listeners_25 rfl rfl ?_
      refine rj_getR (C0 := RX11) (T := TX11) (N := 6) (j := 2) (r := 45) dX11_listeners_26 rfl vX11_listeners_11 rfl (rj_lt hω (k := 0) rfl) (rj_sh hω ly_0) (by decide) kX11_listeners_33 rfl ?_
      refine rj_iload 4 dX11_listeners_29 rfl rfl ?_
      refine rj_cV (rest := []) (sX2_planFor (g := g) (ω := ω) hω s18.2 (nI j18)   ) gX11_listeners_X2_planFor (rj_lt hω (k := 45) rfl) (rj_sh hω ly_45) rfl rfl hVX2_planFor ⟨Nat.le_of_ble_eq_true rfl, Nat.le_of_ble_eq_true rfl⟩ dX11_listeners_31 rfl rfl rfl (Nat.le_of_ble_eq_true rfl) rfl (Nat.le_of_ble_eq_true rfl) rfl ?_
      refine rj_aload_n 0 dX11_listeners_34 rfl rfl ?_
      refine rj_getR (C0 := RX11) (T := TX11) (N := 6) (j := 2) (r := 45) dX11_listeners_35 rfl vX11_listeners_11 rfl (rj_lt hω (k := 0) rfl) (rj_sh hω ly_0) (by decide) kX11_listeners_33 rfl ?_
      refine rj_iload_n 1 dX11_listeners_38 rfl rfl ?_
      refine rj_iload_n 2 dX11_listeners_39 rfl rfl ?_
      refine rj_cV (rest := []) (sX2_isAt (g := g) (ω := ω) hω (mX2_planFor s18.2 (nI j18)) a0 a1   ) gX11_listeners_X2_isAt (rj_lt hω (k := 45) rfl) (rj_sh hω ly_45) rfl rfl hVX2_isAt ⟨Nat.le_of_ble_eq_true rfl, Nat.le_of_ble_eq_true rfl⟩ dX11_listeners_40 rfl rfl rfl (Nat.le_of_ble_eq_true rfl) rfl (Nat.le_of_ble_eq_true rfl) rfl ?_
      refine rj_if_eq dX11_listeners_43 rfl rfl (fun h6 => ?_) (fun h6 => ?_)
      · refine rj_iinc (v := nI (j18 + 1)) (l' := [(4, .int (nI (j18 + 1))), (0, .ref (ω.2.2 0)), (1, .int a0), (2, .int a1), (3, .int s18.1)]) 4 dX11_listeners_49 rfl rfl (nI_succ j18).symm (rj_bl rfl) rfl ?_
        refine rj_goto dX11_listeners_52 rfl ?_
        have e : bX11_listeners_18 μ a0 a1 j18 s18 = (s18.1, (mX2_planFor s18.2 (nI j18))) := by unfold bX11_listeners_18; rw [if_pos h6]; try rfl
        exact rj_sub (l' := [(0, .ref (ω.2.2 0)), (1, .int a0), (2, .int a1), (3, .int s18.1), (4, .int (nI (j18 + 1)))]) [1, 2, 3, 4, 0] rfl (ih (j18 + 1) (s18.1, (mX2_planFor s18.2 (nI j18))) (by omega) (by rw [rj_fo_s, e] at K; exact K))
      · refine rj_iinc (v := s18.1 + 1) (l' := [(3, .int (s18.1 + 1)), (0, .ref (ω.2.2 0)), (1, .int a0), (2, .int a1), (4, .int (nI j18))]) 3 dX11_listeners_46 rfl rfl rfl (rj_bl rfl) rfl ?_
        refine rj_iinc (v := nI (j18 + 1)) (l' := [(4, .int (nI (j18 + 1))), (3, .int (s18.1 + 1)), (0, .ref (ω.2.2 0)), (1, .int a0), (2, .int a1)]) 4 dX11_listeners_49 rfl rfl (nI_succ j18).symm (rj_bl rfl) rfl ?_
        refine rj_goto dX11_listeners_52 rfl ?_
        have e : bX11_listeners_18 μ a0 a1 j18 s18 = (s18.1 + 1, (mX2_planFor s18.2 (nI j18))) := by unfold bX11_listeners_18; rw [if_neg h6]; try rfl
        exact rj_sub (l' := [(0, .ref (ω.2.2 0)), (1, .int a0), (2, .int a1), (3, .int (s18.1 + 1)), (4, .int (nI (j18 + 1)))]) [2, 3, 4, 1, 0] rfl (ih (j18 + 1) (s18.1 + 1, (mX2_planFor s18.2 (nI j18))) (by omega) (by rw [rj_fo_s, e] at K; exact K))
set_option maxHeartbeats 4000000 in
theorem lX11_listeners_18u {g : rj_G} {ω : rj_W} (hω : rj_ok ω) (μ : rj_M) (a0 : Int32) (a1 : Int32)     {F : rj_F} : ∀ (r j : Nat) (c0 : Int32) (c1 : rj_M), j + r = 12 → (rj_R g RX11 cX11_listeners 5 (some .int) wsX11_listeners [] (rj_rm 7 2) F 2 ω ((rj_fo (bX11_listeners_18 μ a0 a1) r j (c0, c1)).2) [(0, .ref (ω.2.2 0)), (1, .int a0), (2, .int a1), (3, .int ((rj_fo (bX11_listeners_18 μ a0 a1) r j (c0, c1)).1)), (4, .int (nI 12))] 55 []) → rj_R g RX11 cX11_listeners 5 (some .int) wsX11_listeners [] (rj_rm 7 2) F 2 ω c1 [(0, .ref (ω.2.2 0)), (1, .int a0), (2, .int a1), (3, .int c0), (4, .int (nI j))] 18 [] := fun r j c0 c1 => lX11_listeners_18 hω μ a0 a1     r j (c0, c1)
def fX11_listeners (μ : rj_M) (a0 : Int32) (a1 : Int32) : Int32 ⊕ String := (rj_bx (fX11_needPlace μ a0 4) (rj_bx (fX11_needRange μ a1 0 5759) (.inl ((rj_fo (bX11_listeners_18 μ a0 a1) 12 0 (0, μ)).1))))
def mX11_listeners (μ : rj_M) (a0 : Int32) (a1 : Int32) : rj_M := (rj_bm (fX11_needPlace μ a0 4) (rj_bm (fX11_needRange μ a1 0 5759) (rj_fo (bX11_listeners_18 μ a0 a1) 12 0 (0, μ)).2 μ) μ)
set_option maxHeartbeats 4000000 in
set_option maxRecDepth 100000 in
theorem sX11_listeners {g : rj_G} {ω : rj_W} (hω : rj_ok ω) (μ : rj_M) (a0 : Int32) (a1 : Int32)   : rj_Sp g yX11_listeners wsX11_listeners (rj_rm 7 2) [.ref (ω.2.2 0), .int a0, .int a1] ω μ (rj_D (rj_oi (fX11_listeners μ a0 a1)) ω (mX11_listeners μ a0 a1)) := by
  refine rj_of' (cc := cX11_listeners) (nL := 5) (ret := (some .int)) (own := RX11) (l0 := [(0, .ref (ω.2.2 0)), (1, .int a0), (2, .int a1)]) rfl (by decide +kernel) rfl (Nat.le_of_ble_eq_true rfl) rfl ?_
  refine rj_iload_n 1 dX11_listeners_0 rfl rfl ?_
  refine rj_iconst (v := 4) dX11_listeners_1 rfl (by decide) ?_
  refine rj_cSx (rest := []) (sX11_needPlace (g := g) (ω := ω) hω μ a0 4   ) gX11_listeners_X11_needPlace rfl hSX11_needPlace ⟨Nat.le_of_ble_eq_true rfl, Nat.le_of_ble_eq_true rfl⟩ dX11_listeners_2 rfl rfl rfl (Nat.le_of_ble_eq_true rfl) rfl (Nat.le_of_ble_eq_true rfl) (fun E hE2 => ?_) (fun hx1 => ?_)
  · exact ⟨(by unfold fX11_listeners; try (rw [hE2]); try (simp only [rj_bx]); try rfl), rfl, (by unfold mX11_listeners; try (rw [hE2]); try (simp only [rj_bm]); try rfl)⟩
  · refine rj_iload_n 2 dX11_listeners_5 rfl rfl ?_
    refine rj_iconst (v := 0) dX11_listeners_6 rfl (by decide) ?_
    refine rj_sipush (v := 5759) dX11_listeners_7 rfl (by decide) ?_
    refine rj_cSx (rest := []) (sX11_needRange (g := g) (ω := ω) hω μ a1 0 5759   ) gX11_listeners_X11_needRange rfl hSX11_needRange ⟨Nat.le_of_ble_eq_true rfl, Nat.le_of_ble_eq_true rfl⟩ dX11_listeners_10 rfl rfl rfl (Nat.le_of_ble_eq_true rfl) rfl (Nat.le_of_ble_eq_true rfl) (fun E hE4 => ?_) (fun hx3 => ?_)
    · exact ⟨(by unfold fX11_listeners; try (rw [hx1]); try (simp only [rj_bx]); try (rw [hE4]); try (simp only [rj_bx]); try rfl), rfl, (by unfold mX11_listeners; try (rw [hx1]); try (simp only [rj_bm]); try (rw [hE4]); try (simp only [rj_bm]); try rfl)⟩
    · refine rj_iconst (v := 0) dX11_listeners_13 rfl (by decide) ?_
      refine rj_istore_n (l' := [(3, .int 0), (0, .ref (ω.2.2 0)), (1, .int a0), (2, .int a1)]) dX11_listeners_14 rfl (rj_bl rfl) rfl ?_
      refine rj_iconst (v := 0) dX11_listeners_15 rfl (by decide) ?_
      refine rj_istore (l' := [(4, .int 0), (3, .int 0), (0, .ref (ω.2.2 0)), (1, .int a0), (2, .int a1)]) dX11_listeners_16 rfl (rj_bl rfl) rfl ?_
      refine rj_sub (l' := [(0, .ref (ω.2.2 0)), (1, .int a0), (2, .int a1), (3, .int 0), (4, .int (nI 0))]) [2, 3, 4, 1, 0] rfl ?_
      refine lX11_listeners_18u hω μ a0 a1     12 0 0 μ rfl ?_
      refine rj_iload_n 3 dX11_listeners_55 rfl rfl ?_
      exact rj_iret dX11_listeners_56 rfl (Nat.le_of_ble_eq_true rfl) (Nat.le_of_ble_eq_true rfl) ⟨(by unfold fX11_listeners; try (rw [hx1]); try (simp only [rj_bx]); try (rw [hx3]); try (simp only [rj_bx]); try rfl), rfl, (by unfold mX11_listeners; try (rw [hx1]); try (simp only [rj_bm]); try (rw [hx3]); try (simp only [rj_bm]); try rfl)⟩
theorem hSX11_line : yX11_line.cls ≠ "java/lang/invoke/MethodHandle" ∧ yX11_line.cls ≠ "java/lang/invoke/VarHandle" ∧ (parseMethodDescriptor yX11_line.desc).map (fun d => d.parameters.length) = some 1 := by decide +kernel
theorem hVX11_line : yX11_line.cls = RX11 ∧ yX11_line.cls ≠ "java/lang/invoke/MethodHandle" ∧ yX11_line.cls ≠ "java/lang/invoke/VarHandle" ∧ (parseMethodDescriptor yX11_line.desc).map (fun d => d.parameters.length) = some 1 := by decide +kernel
theorem vX11_line_11 : ∀ w ∈ u_ws RX11 TX11 6, w ∈ wsX11_line := by decide +kernel
theorem kX11_line_12 : Cond.fieldLink RX11 12 (TX11 0).1 (TX11 0).2.1 (TX11 0).2.2.1 ∈ wsX11_line := by decide +kernel
theorem vX11_line_5 : ∀ w ∈ u_ws RX5 TX5 8, w ∈ wsX11_line := by decide +kernel
theorem kX11_line_150 : Cond.fieldLink RX11 150 (TX5 4).1 (TX5 4).2.1 (TX5 4).2.2.1 ∈ wsX11_line := by decide +kernel
def fX11_line (μ : rj_M) (a0 : Int32) : Int32 ⊕ String := (rj_bx (fX11_needPlace μ a0 3) (.inl (fX0_lengthOf μ a0)))
set_option maxHeartbeats 4000000 in
set_option maxRecDepth 100000 in
theorem sX11_line {g : rj_G} {ω : rj_W} (hω : rj_ok ω) (μ : rj_M) (a0 : Int32)   : rj_Sp g yX11_line wsX11_line (rj_rm 7 1) [.ref (ω.2.2 0), .int a0] ω μ (rj_D (rj_oi (fX11_line μ a0)) ω μ) := by
  refine rj_of' (cc := cX11_line) (nL := 2) (ret := (some .int)) (own := RX11) (l0 := [(0, .ref (ω.2.2 0)), (1, .int a0)]) rfl (by decide +kernel) rfl (Nat.le_of_ble_eq_true rfl) rfl ?_
  refine rj_iload_n 1 dX11_line_0 rfl rfl ?_
  refine rj_iconst (v := 3) dX11_line_1 rfl (by decide) ?_
  refine rj_cSx (rest := []) (sX11_needPlace (g := g) (ω := ω) hω μ a0 3   ) gX11_line_X11_needPlace rfl hSX11_needPlace ⟨Nat.le_of_ble_eq_true rfl, Nat.le_of_ble_eq_true rfl⟩ dX11_line_2 rfl rfl rfl (Nat.le_of_ble_eq_true rfl) rfl (Nat.le_of_ble_eq_true rfl) (fun E hE2 => ?_) (fun hx1 => ?_)
  · exact ⟨(by unfold fX11_line; try (rw [hE2]); try (simp only [rj_bx]); try rfl), rfl, rfl⟩
  · refine rj_aload_n 0 dX11_line_5 rfl rfl ?_
    refine rj_getR (C0 := RX11) (T := TX11) (N := 6) (j := 0) (r := 1) dX11_line_6 rfl vX11_line_11 rfl (rj_lt hω (k := 0) rfl) (rj_sh hω ly_0) (by decide) kX11_line_12 rfl ?_
    refine rj_getR (C0 := RX5) (T := TX5) (N := 8) (j := 4) (r := 21) dX11_line_9 rfl vX11_line_5 rfl (rj_lt hω (k := 1) rfl) (rj_sh hω ly_1) (by decide) kX11_line_150 rfl ?_
    refine rj_iload_n 1 dX11_line_12 rfl rfl ?_
    refine rj_cV (rest := []) (sX0_lengthOf (g := g) (ω := ω) hω μ a0   ) gX11_line_X0_lengthOf (rj_lt hω (k := 21) rfl) (rj_sh hω ly_21) rfl rfl hVX0_lengthOf ⟨Nat.le_of_ble_eq_true rfl, Nat.le_of_ble_eq_true rfl⟩ dX11_line_13 rfl rfl rfl (Nat.le_of_ble_eq_true rfl) rfl (Nat.le_of_ble_eq_true rfl) rfl ?_
    exact rj_iret dX11_line_16 rfl (Nat.le_of_ble_eq_true rfl) (Nat.le_of_ble_eq_true rfl) ⟨(by unfold fX11_line; try (rw [hx1]); try (simp only [rj_bx]); try rfl), rfl, rfl⟩
theorem hSX11_waitOf : yX11_waitOf.cls ≠ "java/lang/invoke/MethodHandle" ∧ yX11_waitOf.cls ≠ "java/lang/invoke/VarHandle" ∧ (parseMethodDescriptor yX11_waitOf.desc).map (fun d => d.parameters.length) = some 1 := by decide +kernel
theorem hVX11_waitOf : yX11_waitOf.cls = RX11 ∧ yX11_waitOf.cls ≠ "java/lang/invoke/MethodHandle" ∧ yX11_waitOf.cls ≠ "java/lang/invoke/VarHandle" ∧ (parseMethodDescriptor yX11_waitOf.desc).map (fun d => d.parameters.length) = some 1 := by decide +kernel
theorem vX11_waitOf_11 : ∀ w ∈ u_ws RX11 TX11 6, w ∈ wsX11_waitOf := by decide +kernel
theorem kX11_waitOf_12 : Cond.fieldLink RX11 12 (TX11 0).1 (TX11 0).2.1 (TX11 0).2.2.1 ∈ wsX11_waitOf := by decide +kernel
theorem vX11_waitOf_5 : ∀ w ∈ u_ws RX5 TX5 8, w ∈ wsX11_waitOf := by decide +kernel
theorem kX11_waitOf_150 : Cond.fieldLink RX11 150 (TX5 4).1 (TX5 4).2.1 (TX5 4).2.2.1 ∈ wsX11_waitOf := by decide +kernel
def fX11_waitOf (μ : rj_M) (a0 : Int32) : Int32 ⊕ String := (rj_bx (fX11_needPlace μ a0 12) (.inl (fX0_minutesTill μ a0)))
set_option maxHeartbeats 4000000 in
set_option maxRecDepth 100000 in
theorem sX11_waitOf {g : rj_G} {ω : rj_W} (hω : rj_ok ω) (μ : rj_M) (a0 : Int32)   : rj_Sp g yX11_waitOf wsX11_waitOf (rj_rm 7 1) [.ref (ω.2.2 0), .int a0] ω μ (rj_D (rj_oi (fX11_waitOf μ a0)) ω μ) := by
  refine rj_of' (cc := cX11_waitOf) (nL := 2) (ret := (some .int)) (own := RX11) (l0 := [(0, .ref (ω.2.2 0)), (1, .int a0)]) rfl (by decide +kernel) rfl (Nat.le_of_ble_eq_true rfl) rfl ?_
  refine rj_iload_n 1 dX11_waitOf_0 rfl rfl ?_
  refine rj_bipush (v := 12) dX11_waitOf_1 rfl (by decide) ?_
  refine rj_cSx (rest := []) (sX11_needPlace (g := g) (ω := ω) hω μ a0 12   ) gX11_waitOf_X11_needPlace rfl hSX11_needPlace ⟨Nat.le_of_ble_eq_true rfl, Nat.le_of_ble_eq_true rfl⟩ dX11_waitOf_3 rfl rfl rfl (Nat.le_of_ble_eq_true rfl) rfl (Nat.le_of_ble_eq_true rfl) (fun E hE2 => ?_) (fun hx1 => ?_)
  · exact ⟨(by unfold fX11_waitOf; try (rw [hE2]); try (simp only [rj_bx]); try rfl), rfl, rfl⟩
  · refine rj_aload_n 0 dX11_waitOf_6 rfl rfl ?_
    refine rj_getR (C0 := RX11) (T := TX11) (N := 6) (j := 0) (r := 1) dX11_waitOf_7 rfl vX11_waitOf_11 rfl (rj_lt hω (k := 0) rfl) (rj_sh hω ly_0) (by decide) kX11_waitOf_12 rfl ?_
    refine rj_getR (C0 := RX5) (T := TX5) (N := 8) (j := 4) (r := 21) dX11_waitOf_10 rfl vX11_waitOf_5 rfl (rj_lt hω (k := 1) rfl) (rj_sh hω ly_1) (by decide) kX11_waitOf_150 rfl ?_
    refine rj_iload_n 1 dX11_waitOf_13 rfl rfl ?_
    refine rj_cV (rest := []) (sX0_minutesTill (g := g) (ω := ω) hω μ a0   ) gX11_waitOf_X0_minutesTill (rj_lt hω (k := 21) rfl) (rj_sh hω ly_21) rfl rfl hVX0_minutesTill ⟨Nat.le_of_ble_eq_true rfl, Nat.le_of_ble_eq_true rfl⟩ dX11_waitOf_14 rfl rfl rfl (Nat.le_of_ble_eq_true rfl) rfl (Nat.le_of_ble_eq_true rfl) rfl ?_
    exact rj_iret dX11_waitOf_17 rfl (Nat.le_of_ble_eq_true rfl) (Nat.le_of_ble_eq_true rfl) ⟨(by unfold fX11_waitOf; try (rw [hx1]); try (simp only [rj_bx]); try rfl), rfl, rfl⟩
theorem hSX11_waits : yX11_waits.cls ≠ "java/lang/invoke/MethodHandle" ∧ yX11_waits.cls ≠ "java/lang/invoke/VarHandle" ∧ (parseMethodDescriptor yX11_waits.desc).map (fun d => d.parameters.length) = some 1 := by decide +kernel
theorem hVX11_waits : yX11_waits.cls = RX11 ∧ yX11_waits.cls ≠ "java/lang/invoke/MethodHandle" ∧ yX11_waits.cls ≠ "java/lang/invoke/VarHandle" ∧ (parseMethodDescriptor yX11_waits.desc).map (fun d => d.parameters.length) = some 1 := by decide +kernel
theorem vX11_waits_11 : ∀ w ∈ u_ws RX11 TX11 6, w ∈ wsX11_waits := by decide +kernel
theorem kX11_waits_12 : Cond.fieldLink RX11 12 (TX11 0).1 (TX11 0).2.1 (TX11 0).2.2.1 ∈ wsX11_waits := by decide +kernel
theorem vX11_waits_5 : ∀ w ∈ u_ws RX5 TX5 8, w ∈ wsX11_waits := by decide +kernel
theorem kX11_waits_150 : Cond.fieldLink RX11 150 (TX5 4).1 (TX5 4).2.1 (TX5 4).2.2.1 ∈ wsX11_waits := by decide +kernel
def fX11_waits (μ : rj_M) (a0 : Int32) : Int32 := (if a0 = 0 then (fX0_sumInLines μ) else (fX0_sumInOneLine μ))
def mX11_waits (μ : rj_M) (a0 : Int32) : rj_M := (if a0 = 0 then μ else (mX0_sumInOneLine μ))
set_option maxHeartbeats 4000000 in
set_option maxRecDepth 100000 in
theorem sX11_waits {g : rj_G} {ω : rj_W} (hω : rj_ok ω) (μ : rj_M) (a0 : Int32)   : rj_Sp g yX11_waits wsX11_waits (rj_rm 3 0) [.ref (ω.2.2 0), .int a0] ω μ (rj_D (.inl (some (.int (fX11_waits μ a0)))) ω (mX11_waits μ a0)) := by
  refine rj_of' (cc := cX11_waits) (nL := 2) (ret := (some .int)) (own := RX11) (l0 := [(0, .ref (ω.2.2 0)), (1, .int a0)]) rfl (by decide +kernel) rfl (Nat.le_of_ble_eq_true rfl) rfl ?_
  refine rj_iload_n 1 dX11_waits_0 rfl rfl ?_
  refine rj_if_eq dX11_waits_1 rfl rfl (fun h1 => ?_) (fun h1 => ?_)
  · refine rj_aload_n 0 dX11_waits_17 rfl rfl ?_
    refine rj_getR (C0 := RX11) (T := TX11) (N := 6) (j := 0) (r := 1) dX11_waits_18 rfl vX11_waits_11 rfl (rj_lt hω (k := 0) rfl) (rj_sh hω ly_0) (by decide) kX11_waits_12 rfl ?_
    refine rj_getR (C0 := RX5) (T := TX5) (N := 8) (j := 4) (r := 21) dX11_waits_21 rfl vX11_waits_5 rfl (rj_lt hω (k := 1) rfl) (rj_sh hω ly_1) (by decide) kX11_waits_150 rfl ?_
    refine rj_cV (rest := []) (sX0_sumInLines (g := g) (ω := ω) hω μ   ) gX11_waits_X0_sumInLines (rj_lt hω (k := 21) rfl) (rj_sh hω ly_21) rfl rfl hVX0_sumInLines ⟨Nat.le_of_ble_eq_true rfl, Nat.le_of_ble_eq_true rfl⟩ dX11_waits_24 rfl rfl rfl (Nat.le_of_ble_eq_true rfl) rfl (Nat.le_of_ble_eq_true rfl) rfl ?_
    exact rj_iret dX11_waits_27 rfl (Nat.le_of_ble_eq_true rfl) (Nat.le_of_ble_eq_true rfl) ⟨(by unfold fX11_waits; rw [if_pos h1]; try rfl), rfl, (by unfold mX11_waits; rw [if_pos h1]; try rfl)⟩
  · refine rj_aload_n 0 dX11_waits_4 rfl rfl ?_
    refine rj_getR (C0 := RX11) (T := TX11) (N := 6) (j := 0) (r := 1) dX11_waits_5 rfl vX11_waits_11 rfl (rj_lt hω (k := 0) rfl) (rj_sh hω ly_0) (by decide) kX11_waits_12 rfl ?_
    refine rj_getR (C0 := RX5) (T := TX5) (N := 8) (j := 4) (r := 21) dX11_waits_8 rfl vX11_waits_5 rfl (rj_lt hω (k := 1) rfl) (rj_sh hω ly_1) (by decide) kX11_waits_150 rfl ?_
    refine rj_cV (rest := []) (sX0_sumInOneLine (g := g) (ω := ω) hω μ   ) gX11_waits_X0_sumInOneLine (rj_lt hω (k := 21) rfl) (rj_sh hω ly_21) rfl rfl hVX0_sumInOneLine ⟨Nat.le_of_ble_eq_true rfl, Nat.le_of_ble_eq_true rfl⟩ dX11_waits_11 rfl rfl rfl (Nat.le_of_ble_eq_true rfl) rfl (Nat.le_of_ble_eq_true rfl) rfl ?_
    refine rj_goto dX11_waits_14 rfl ?_
    exact rj_iret dX11_waits_27 rfl (Nat.le_of_ble_eq_true rfl) (Nat.le_of_ble_eq_true rfl) ⟨(by unfold fX11_waits; rw [if_neg h1]; try rfl), rfl, (by unfold mX11_waits; rw [if_neg h1]; try rfl)⟩
theorem hSX11_served : yX11_served.cls ≠ "java/lang/invoke/MethodHandle" ∧ yX11_served.cls ≠ "java/lang/invoke/VarHandle" ∧ (parseMethodDescriptor yX11_served.desc).map (fun d => d.parameters.length) = some 0 := by decide +kernel
theorem hVX11_served : yX11_served.cls = RX11 ∧ yX11_served.cls ≠ "java/lang/invoke/MethodHandle" ∧ yX11_served.cls ≠ "java/lang/invoke/VarHandle" ∧ (parseMethodDescriptor yX11_served.desc).map (fun d => d.parameters.length) = some 0 := by decide +kernel
theorem vX11_served_11 : ∀ w ∈ u_ws RX11 TX11 6, w ∈ wsX11_served := by decide +kernel
theorem kX11_served_12 : Cond.fieldLink RX11 12 (TX11 0).1 (TX11 0).2.1 (TX11 0).2.2.1 ∈ wsX11_served := by decide +kernel
theorem vX11_served_5 : ∀ w ∈ u_ws RX5 TX5 8, w ∈ wsX11_served := by decide +kernel
theorem kX11_served_150 : Cond.fieldLink RX11 150 (TX5 4).1 (TX5 4).2.1 (TX5 4).2.2.1 ∈ wsX11_served := by decide +kernel
theorem vX11_served_0 : ∀ w ∈ u_ws RX0 TX0 7, w ∈ wsX11_served := by decide +kernel
theorem kX11_served_175 : Cond.fieldLink RX11 175 (TX0 6).1 (TX0 6).2.1 (TX0 6).2.2.1 ∈ wsX11_served := by decide +kernel
def fX11_served (μ : rj_M) : Int32 := (μ.1 21 6)
set_option maxHeartbeats 4000000 in
set_option maxRecDepth 100000 in
theorem sX11_served {g : rj_G} {ω : rj_W} (hω : rj_ok ω) (μ : rj_M)   : rj_Sp g yX11_served wsX11_served (rj_rm 0 0) [.ref (ω.2.2 0)] ω μ (rj_D (.inl (some (.int (fX11_served μ)))) ω μ) := by
  refine rj_of' (cc := cX11_served) (nL := 1) (ret := (some .int)) (own := RX11) (l0 := [(0, .ref (ω.2.2 0))]) rfl (by decide +kernel) rfl (Nat.le_of_ble_eq_true rfl) rfl ?_
  refine rj_aload_n 0 dX11_served_0 rfl rfl ?_
  refine rj_getR (C0 := RX11) (T := TX11) (N := 6) (j := 0) (r := 1) dX11_served_1 rfl vX11_served_11 rfl (rj_lt hω (k := 0) rfl) (rj_sh hω ly_0) (by decide) kX11_served_12 rfl ?_
  refine rj_getR (C0 := RX5) (T := TX5) (N := 8) (j := 4) (r := 21) dX11_served_4 rfl vX11_served_5 rfl (rj_lt hω (k := 1) rfl) (rj_sh hω ly_1) (by decide) kX11_served_150 rfl ?_
  refine rj_getI (C0 := RX0) (T := TX0) (N := 7) (j := 6) dX11_served_7 rfl vX11_served_0 rfl (rj_lt hω (k := 21) rfl) (rj_sh hω ly_21) (by decide) kX11_served_175 rfl ?_
  exact rj_iret dX11_served_10 rfl (Nat.le_of_ble_eq_true rfl) (Nat.le_of_ble_eq_true rfl) ⟨(by unfold fX11_served; rfl), rfl, rfl⟩
theorem hSX11_cost : yX11_cost.cls ≠ "java/lang/invoke/MethodHandle" ∧ yX11_cost.cls ≠ "java/lang/invoke/VarHandle" ∧ (parseMethodDescriptor yX11_cost.desc).map (fun d => d.parameters.length) = some 0 := by decide +kernel
theorem hVX11_cost : yX11_cost.cls = RX11 ∧ yX11_cost.cls ≠ "java/lang/invoke/MethodHandle" ∧ yX11_cost.cls ≠ "java/lang/invoke/VarHandle" ∧ (parseMethodDescriptor yX11_cost.desc).map (fun d => d.parameters.length) = some 0 := by decide +kernel
theorem vX11_cost_11 : ∀ w ∈ u_ws RX11 TX11 6, w ∈ wsX11_cost := by decide +kernel
theorem kX11_cost_12 : Cond.fieldLink RX11 12 (TX11 0).1 (TX11 0).2.1 (TX11 0).2.2.1 ∈ wsX11_cost := by decide +kernel
theorem vX11_cost_5 : ∀ w ∈ u_ws RX5 TX5 8, w ∈ wsX11_cost := by decide +kernel
theorem kX11_cost_193 : Cond.fieldLink RX11 193 (TX5 6).1 (TX5 6).2.1 (TX5 6).2.2.1 ∈ wsX11_cost := by decide +kernel
def fX11_cost (μ : rj_M) : Int32 := (fX6_leastCost (mX6_planCosts μ))
def mX11_cost (μ : rj_M) : rj_M := (mX6_planCosts μ)
set_option maxHeartbeats 4000000 in
set_option maxRecDepth 100000 in
theorem sX11_cost {g : rj_G} {ω : rj_W} (hω : rj_ok ω) (μ : rj_M)   : rj_Sp g yX11_cost wsX11_cost (rj_rm 4 0) [.ref (ω.2.2 0)] ω μ (rj_D (.inl (some (.int (fX11_cost μ)))) ω (mX11_cost μ)) := by
  refine rj_of' (cc := cX11_cost) (nL := 1) (ret := (some .int)) (own := RX11) (l0 := [(0, .ref (ω.2.2 0))]) rfl (by decide +kernel) rfl (Nat.le_of_ble_eq_true rfl) rfl ?_
  refine rj_aload_n 0 dX11_cost_0 rfl rfl ?_
  refine rj_getR (C0 := RX11) (T := TX11) (N := 6) (j := 0) (r := 1) dX11_cost_1 rfl vX11_cost_11 rfl (rj_lt hω (k := 0) rfl) (rj_sh hω ly_0) (by decide) kX11_cost_12 rfl ?_
  refine rj_getR (C0 := RX5) (T := TX5) (N := 8) (j := 6) (r := 30) dX11_cost_4 rfl vX11_cost_5 rfl (rj_lt hω (k := 1) rfl) (rj_sh hω ly_1) (by decide) kX11_cost_193 rfl ?_
  refine rj_cV (rest := []) (sX6_planCosts (g := g) (ω := ω) hω μ   ) gX11_cost_X6_planCosts (rj_lt hω (k := 30) rfl) (rj_sh hω ly_30) rfl rfl hVX6_planCosts ⟨Nat.le_of_ble_eq_true rfl, Nat.le_of_ble_eq_true rfl⟩ dX11_cost_7 rfl rfl rfl (Nat.le_of_ble_eq_true rfl) rfl (Nat.le_of_ble_eq_true rfl) rfl ?_
  refine rj_aload_n 0 dX11_cost_10 rfl rfl ?_
  refine rj_getR (C0 := RX11) (T := TX11) (N := 6) (j := 0) (r := 1) dX11_cost_11 rfl vX11_cost_11 rfl (rj_lt hω (k := 0) rfl) (rj_sh hω ly_0) (by decide) kX11_cost_12 rfl ?_
  refine rj_getR (C0 := RX5) (T := TX5) (N := 8) (j := 6) (r := 30) dX11_cost_14 rfl vX11_cost_5 rfl (rj_lt hω (k := 1) rfl) (rj_sh hω ly_1) (by decide) kX11_cost_193 rfl ?_
  refine rj_cV (rest := []) (sX6_leastCost (g := g) (ω := ω) hω (mX6_planCosts μ)   ) gX11_cost_X6_leastCost (rj_lt hω (k := 30) rfl) (rj_sh hω ly_30) rfl rfl hVX6_leastCost ⟨Nat.le_of_ble_eq_true rfl, Nat.le_of_ble_eq_true rfl⟩ dX11_cost_17 rfl rfl rfl (Nat.le_of_ble_eq_true rfl) rfl (Nat.le_of_ble_eq_true rfl) rfl ?_
  exact rj_iret dX11_cost_20 rfl (Nat.le_of_ble_eq_true rfl) (Nat.le_of_ble_eq_true rfl) ⟨(by unfold fX11_cost; rfl), rfl, (by unfold mX11_cost; rfl)⟩
theorem hSX11_isOn : yX11_isOn.cls ≠ "java/lang/invoke/MethodHandle" ∧ yX11_isOn.cls ≠ "java/lang/invoke/VarHandle" ∧ (parseMethodDescriptor yX11_isOn.desc).map (fun d => d.parameters.length) = some 1 := by decide +kernel
theorem hVX11_isOn : yX11_isOn.cls = RX11 ∧ yX11_isOn.cls ≠ "java/lang/invoke/MethodHandle" ∧ yX11_isOn.cls ≠ "java/lang/invoke/VarHandle" ∧ (parseMethodDescriptor yX11_isOn.desc).map (fun d => d.parameters.length) = some 1 := by decide +kernel
theorem vX11_isOn_11 : ∀ w ∈ u_ws RX11 TX11 6, w ∈ wsX11_isOn := by decide +kernel
theorem kX11_isOn_12 : Cond.fieldLink RX11 12 (TX11 0).1 (TX11 0).2.1 (TX11 0).2.2.1 ∈ wsX11_isOn := by decide +kernel
theorem vX11_isOn_5 : ∀ w ∈ u_ws RX5 TX5 8, w ∈ wsX11_isOn := by decide +kernel
theorem kX11_isOn_193 : Cond.fieldLink RX11 193 (TX5 6).1 (TX5 6).2.1 (TX5 6).2.2.1 ∈ wsX11_isOn := by decide +kernel
theorem xkX11_isOn_267 : Cond.classLink RX11 267 "java/util/NoSuchElementException" ∈ wsX11_isOn := by decide +kernel
theorem xiX11_isOn_267 : Cond.initialized "java/util/NoSuchElementException" ∈ wsX11_isOn := by decide +kernel
theorem xaX11_isOn_271 : ∀ w ∈ (vx_wdN).filter goodWord, w ∈ wsX11_isOn := by decide +kernel
theorem xbX11_isOn_271 : ∀ w ∈ (vx_wdN).filter (fun w => !goodWord w), w ∈ Cond.castable "java/util/NoSuchElementException" "java/util/NoSuchElementException" :: rj_dc.map Cond.declares := by decide +kernel
theorem xgX11_isOn_271 : ∀ w ∈ Cond.classLink RX11 267 "java/util/NoSuchElementException" :: Cond.initialized "java/util/NoSuchElementException" :: vx_wdN, vx_ot w = true := by decide +kernel
def fX11_isOn (μ : rj_M) (a0 : Int32) : Int32 ⊕ String := (rj_bx (fX11_needPlace μ a0 24) (if (fX6_leastCost (mX6_planCosts μ)) = (-1) then (.inr "java/util/NoSuchElementException") else (.inl (fX6_setAt (mX6_planCosts μ) a0))))
def mX11_isOn (μ : rj_M) (a0 : Int32) : rj_M := (rj_bm (fX11_needPlace μ a0 24) (if (fX6_leastCost (mX6_planCosts μ)) = (-1) then (mX6_planCosts μ) else (mX6_planCosts μ)) μ)
set_option maxHeartbeats 4000000 in
set_option maxRecDepth 100000 in
theorem sX11_isOn {g : rj_G} {ω : rj_W} (hω : rj_ok ω) (μ : rj_M) (a0 : Int32)   : rj_Sp g yX11_isOn wsX11_isOn (rj_rm 7 2) [.ref (ω.2.2 0), .int a0] ω μ (rj_D (rj_oi (fX11_isOn μ a0)) ω (mX11_isOn μ a0)) := by
  refine rj_of' (cc := cX11_isOn) (nL := 2) (ret := (some .int)) (own := RX11) (l0 := [(0, .ref (ω.2.2 0)), (1, .int a0)]) rfl (by decide +kernel) rfl (Nat.le_of_ble_eq_true rfl) rfl ?_
  refine rj_iload_n 1 dX11_isOn_0 rfl rfl ?_
  refine rj_bipush (v := 24) dX11_isOn_1 rfl (by decide) ?_
  refine rj_cSx (rest := []) (sX11_needPlace (g := g) (ω := ω) hω μ a0 24   ) gX11_isOn_X11_needPlace rfl hSX11_needPlace ⟨Nat.le_of_ble_eq_true rfl, Nat.le_of_ble_eq_true rfl⟩ dX11_isOn_3 rfl rfl rfl (Nat.le_of_ble_eq_true rfl) rfl (Nat.le_of_ble_eq_true rfl) (fun E hE2 => ?_) (fun hx1 => ?_)
  · exact ⟨(by unfold fX11_isOn; try (rw [hE2]); try (simp only [rj_bx]); try rfl), rfl, (by unfold mX11_isOn; try (rw [hE2]); try (simp only [rj_bm]); try rfl)⟩
  · refine rj_aload_n 0 dX11_isOn_6 rfl rfl ?_
    refine rj_getR (C0 := RX11) (T := TX11) (N := 6) (j := 0) (r := 1) dX11_isOn_7 rfl vX11_isOn_11 rfl (rj_lt hω (k := 0) rfl) (rj_sh hω ly_0) (by decide) kX11_isOn_12 rfl ?_
    refine rj_getR (C0 := RX5) (T := TX5) (N := 8) (j := 6) (r := 30) dX11_isOn_10 rfl vX11_isOn_5 rfl (rj_lt hω (k := 1) rfl) (rj_sh hω ly_1) (by decide) kX11_isOn_193 rfl ?_
    refine rj_cV (rest := []) (sX6_planCosts (g := g) (ω := ω) hω μ   ) gX11_isOn_X6_planCosts (rj_lt hω (k := 30) rfl) (rj_sh hω ly_30) rfl rfl hVX6_planCosts ⟨Nat.le_of_ble_eq_true rfl, Nat.le_of_ble_eq_true rfl⟩ dX11_isOn_13 rfl rfl rfl (Nat.le_of_ble_eq_true rfl) rfl (Nat.le_of_ble_eq_true rfl) rfl ?_
    refine rj_aload_n 0 dX11_isOn_16 rfl rfl ?_
    refine rj_getR (C0 := RX11) (T := TX11) (N := 6) (j := 0) (r := 1) dX11_isOn_17 rfl vX11_isOn_11 rfl (rj_lt hω (k := 0) rfl) (rj_sh hω ly_0) (by decide) kX11_isOn_12 rfl ?_
    refine rj_getR (C0 := RX5) (T := TX5) (N := 8) (j := 6) (r := 30) dX11_isOn_20 rfl vX11_isOn_5 rfl (rj_lt hω (k := 1) rfl) (rj_sh hω ly_1) (by decide) kX11_isOn_193 rfl ?_
    refine rj_cV (rest := []) (sX6_leastCost (g := g) (ω := ω) hω (mX6_planCosts μ)   ) gX11_isOn_X6_leastCost (rj_lt hω (k := 30) rfl) (rj_sh hω ly_30) rfl rfl hVX6_leastCost ⟨Nat.le_of_ble_eq_true rfl, Nat.le_of_ble_eq_true rfl⟩ dX11_isOn_23 rfl rfl rfl (Nat.le_of_ble_eq_true rfl) rfl (Nat.le_of_ble_eq_true rfl) rfl ?_
    refine rj_iconst (v := (-1)) dX11_isOn_26 rfl (by decide) ?_
    refine rj_icmp_ne dX11_isOn_27 rfl rfl (fun h3 => ?_) (fun h3 => ?_)
    · refine rj_aload_n 0 dX11_isOn_41 rfl rfl ?_
      refine rj_getR (C0 := RX11) (T := TX11) (N := 6) (j := 0) (r := 1) dX11_isOn_42 rfl vX11_isOn_11 rfl (rj_lt hω (k := 0) rfl) (rj_sh hω ly_0) (by decide) kX11_isOn_12 rfl ?_
      refine rj_getR (C0 := RX5) (T := TX5) (N := 8) (j := 6) (r := 30) dX11_isOn_45 rfl vX11_isOn_5 rfl (rj_lt hω (k := 1) rfl) (rj_sh hω ly_1) (by decide) kX11_isOn_193 rfl ?_
      refine rj_iload_n 1 dX11_isOn_48 rfl rfl ?_
      refine rj_cV (rest := []) (sX6_setAt (g := g) (ω := ω) hω (mX6_planCosts μ) a0   ) gX11_isOn_X6_setAt (rj_lt hω (k := 30) rfl) (rj_sh hω ly_30) rfl rfl hVX6_setAt ⟨Nat.le_of_ble_eq_true rfl, Nat.le_of_ble_eq_true rfl⟩ dX11_isOn_49 rfl rfl rfl (Nat.le_of_ble_eq_true rfl) rfl (Nat.le_of_ble_eq_true rfl) rfl ?_
      exact rj_iret dX11_isOn_52 rfl (Nat.le_of_ble_eq_true rfl) (Nat.le_of_ble_eq_true rfl) ⟨(by unfold fX11_isOn; try (rw [hx1]); try (simp only [rj_bx]); try (rw [if_neg h3]); try rfl), rfl, (by unfold mX11_isOn; try (rw [hx1]); try (simp only [rj_bm]); try (rw [if_neg h3]); try rfl)⟩
    · exact rj_throwN (text := "there is no plan of power") dX11_isOn_30 rfl dX11_isOn_33 rfl dX11_isOn_34 rfl dX11_isOn_37 rfl dX11_isOn_40 (by decide +kernel) xkX11_isOn_267 xiX11_isOn_267 (by decide +kernel) xaX11_isOn_271 xbX11_isOn_271 (by decide) xgX11_isOn_271 (Nat.le_of_ble_eq_true rfl) (Nat.le_of_ble_eq_true rfl) (Nat.le_of_ble_eq_true rfl) ⟨(by unfold fX11_isOn; try (rw [hx1]); try (simp only [rj_bx]); try (rw [if_pos h3]); try rfl), rfl, (by unfold mX11_isOn; try (rw [hx1]); try (simp only [rj_bm]); try (rw [if_pos h3]); try rfl)⟩
theorem hSX11_lost : yX11_lost.cls ≠ "java/lang/invoke/MethodHandle" ∧ yX11_lost.cls ≠ "java/lang/invoke/VarHandle" ∧ (parseMethodDescriptor yX11_lost.desc).map (fun d => d.parameters.length) = some 0 := by decide +kernel
theorem hVX11_lost : yX11_lost.cls = RX11 ∧ yX11_lost.cls ≠ "java/lang/invoke/MethodHandle" ∧ yX11_lost.cls ≠ "java/lang/invoke/VarHandle" ∧ (parseMethodDescriptor yX11_lost.desc).map (fun d => d.parameters.length) = some 0 := by decide +kernel
theorem vX11_lost_11 : ∀ w ∈ u_ws RX11 TX11 6, w ∈ wsX11_lost := by decide +kernel
theorem kX11_lost_12 : Cond.fieldLink RX11 12 (TX11 0).1 (TX11 0).2.1 (TX11 0).2.2.1 ∈ wsX11_lost := by decide +kernel
theorem vX11_lost_5 : ∀ w ∈ u_ws RX5 TX5 8, w ∈ wsX11_lost := by decide +kernel
theorem kX11_lost_22 : Cond.fieldLink RX11 22 (TX5 1).1 (TX5 1).2.1 (TX5 1).2.2.1 ∈ wsX11_lost := by decide +kernel
def fX11_lost (μ : rj_M) : Int32 := (fX4_countLost μ)
set_option maxHeartbeats 4000000 in
set_option maxRecDepth 100000 in
theorem sX11_lost {g : rj_G} {ω : rj_W} (hω : rj_ok ω) (μ : rj_M)   : rj_Sp g yX11_lost wsX11_lost (rj_rm 1 0) [.ref (ω.2.2 0)] ω μ (rj_D (.inl (some (.int (fX11_lost μ)))) ω μ) := by
  refine rj_of' (cc := cX11_lost) (nL := 1) (ret := (some .int)) (own := RX11) (l0 := [(0, .ref (ω.2.2 0))]) rfl (by decide +kernel) rfl (Nat.le_of_ble_eq_true rfl) rfl ?_
  refine rj_aload_n 0 dX11_lost_0 rfl rfl ?_
  refine rj_getR (C0 := RX11) (T := TX11) (N := 6) (j := 0) (r := 1) dX11_lost_1 rfl vX11_lost_11 rfl (rj_lt hω (k := 0) rfl) (rj_sh hω ly_0) (by decide) kX11_lost_12 rfl ?_
  refine rj_getR (C0 := RX5) (T := TX5) (N := 8) (j := 1) (r := 3) dX11_lost_4 rfl vX11_lost_5 rfl (rj_lt hω (k := 1) rfl) (rj_sh hω ly_1) (by decide) kX11_lost_22 rfl ?_
  refine rj_cV (rest := []) (sX4_countLost (g := g) (ω := ω) hω μ   ) gX11_lost_X4_countLost (rj_lt hω (k := 3) rfl) (rj_sh hω ly_3) rfl rfl hVX4_countLost ⟨Nat.le_of_ble_eq_true rfl, Nat.le_of_ble_eq_true rfl⟩ dX11_lost_7 rfl rfl rfl (Nat.le_of_ble_eq_true rfl) rfl (Nat.le_of_ble_eq_true rfl) rfl ?_
  exact rj_iret dX11_lost_10 rfl (Nat.le_of_ble_eq_true rfl) (Nat.le_of_ble_eq_true rfl) ⟨(by unfold fX11_lost; rfl), rfl, rfl⟩
theorem hSX11_checksum : yX11_checksum.cls ≠ "java/lang/invoke/MethodHandle" ∧ yX11_checksum.cls ≠ "java/lang/invoke/VarHandle" ∧ (parseMethodDescriptor yX11_checksum.desc).map (fun d => d.parameters.length) = some 0 := by decide +kernel
theorem hVX11_checksum : yX11_checksum.cls = RX11 ∧ yX11_checksum.cls ≠ "java/lang/invoke/MethodHandle" ∧ yX11_checksum.cls ≠ "java/lang/invoke/VarHandle" ∧ (parseMethodDescriptor yX11_checksum.desc).map (fun d => d.parameters.length) = some 0 := by decide +kernel
theorem vX11_checksum_11 : ∀ w ∈ u_ws RX11 TX11 6, w ∈ wsX11_checksum := by decide +kernel
theorem kX11_checksum_12 : Cond.fieldLink RX11 12 (TX11 0).1 (TX11 0).2.1 (TX11 0).2.2.1 ∈ wsX11_checksum := by decide +kernel
theorem vX11_checksum_5 : ∀ w ∈ u_ws RX5 TX5 8, w ∈ wsX11_checksum := by decide +kernel
theorem kX11_checksum_26 : Cond.fieldLink RX11 26 (TX5 2).1 (TX5 2).2.1 (TX5 2).2.2.1 ∈ wsX11_checksum := by decide +kernel
theorem kX11_checksum_226 : Cond.fieldLink RX11 226 (TX5 7).1 (TX5 7).2.1 (TX5 7).2.2.1 ∈ wsX11_checksum := by decide +kernel
theorem vX11_checksum_8 : ∀ w ∈ u_ws RX8 TX8 5, w ∈ wsX11_checksum := by decide +kernel
theorem kX11_checksum_392 : Cond.fieldLink RX11 392 (TX8 3).1 (TX8 3).2.1 (TX8 3).2.2.1 ∈ wsX11_checksum := by decide +kernel
def bX11_checksum_16 (μ : rj_M) (j16 : Nat) (s16 : Int64) : Int64 := (((31) * s16) + (μ.2.1 42 (nI j16).toNatClampNeg))
set_option maxHeartbeats 4000000 in
set_option maxRecDepth 100000 in
theorem lX11_checksum_16 {g : rj_G} {ω : rj_W} (hω : rj_ok ω) (μ : rj_M)     {F : rj_F} : ∀ (r j : Nat) (s : Int64), j + r = 12 → (rj_R g RX11 cX11_checksum 4 (some .long) wsX11_checksum [] (rj_rm 2 0) F 0 ω μ [(0, .ref (ω.2.2 0)), (1, .long (rj_fo (bX11_checksum_16 μ) r j s)), (3, .int (nI 12))] 47 []) → rj_R g RX11 cX11_checksum 4 (some .long) wsX11_checksum [] (rj_rm 2 0) F 0 ω μ [(0, .ref (ω.2.2 0)), (1, .long s), (3, .int (nI j))] 16 [] := by
  intro r
  induction r with
  | zero =>
    intro j s hj K
    have e0 : j = 12 := by omega
    have hge : 12 ≤ nI j := by
      rw [e0]
      exact Int32.le_refl _
    refine rj_iload_n 2 dX11_checksum_16 rfl rfl ?_
    refine rj_bipush (v := 12) dX11_checksum_17 rfl (by decide) ?_
    refine rj_icmp_ge dX11_checksum_19 rfl rfl (fun h2 => ?_) (fun h2 => ?_)
    · have e1 : nI j = nI 12 := by rw [e0]
      rw [e1]
      exact K
    · exact absurd hge h2
  | succ r ih =>
    intro j16 s16 hj K
    have hl16 : j16 < 12 := by omega
    have hg16 : ¬ 12 ≤ nI j16 := nI_ge hl16 (rj_bl rfl)
    refine rj_iload_n 2 dX11_checksum_16 rfl rfl ?_
    refine rj_bipush (v := 12) dX11_checksum_17 rfl (by decide) ?_
    refine rj_icmp_ge dX11_checksum_19 rfl rfl (fun h1 => ?_) (fun h1 => ?_)
    · exact absurd h1 hg16
    · refine rj_ldc2 (v := (31)) dX11_checksum_22 rfl (by decide +kernel) ?_
      refine rj_lload_n 1 dX11_checksum_25 rfl rfl ?_
      refine rj_lmul dX11_checksum_26 rfl ?_
      refine rj_aload_n 0 dX11_checksum_27 rfl rfl ?_
      refine rj_getR (C0 := RX11) (T := TX11) (N := 6) (j := 0) (r := 1) dX11_checksum_28 rfl vX11_checksum_11 rfl (rj_lt hω (k := 0) rfl) (rj_sh hω ly_0) (by decide) kX11_checksum_12 rfl ?_
      refine rj_getR (C0 := RX5) (T := TX5) (N := 8) (j := 7) (r := 39) dX11_checksum_31 rfl vX11_checksum_5 rfl (rj_lt hω (k := 1) rfl) (rj_sh hω ly_1) (by decide) kX11_checksum_226 rfl ?_
      refine rj_getR (C0 := RX8) (T := TX8) (N := 5) (j := 3) (r := 42) dX11_checksum_34 rfl vX11_checksum_8 rfl (rj_lt hω (k := 39) rfl) (rj_sh hω ly_39) (by decide) kX11_checksum_392 rfl ?_
      refine rj_iload_n 2 dX11_checksum_37 rfl rfl ?_
      refine rj_lald dX11_checksum_38 rfl (rj_lt hω (k := 42) rfl) (rj_sh hω ly_42) (vp_in_nI hl16 (rj_bl rfl)) ?_
      refine rj_ladd dX11_checksum_39 rfl ?_
      refine rj_lstore_n (l' := [(1, .long (((31) * s16) + (μ.2.1 42 (nI j16).toNatClampNeg))), (0, .ref (ω.2.2 0)), (3, .int (nI j16))]) dX11_checksum_40 rfl (rj_bl rfl) rfl ?_
      refine rj_iinc (v := nI (j16 + 1)) (l' := [(3, .int (nI (j16 + 1))), (1, .long (((31) * s16) + (μ.2.1 42 (nI j16).toNatClampNeg))), (0, .ref (ω.2.2 0))]) 2 dX11_checksum_41 rfl rfl (nI_succ j16).symm (rj_bl rfl) rfl ?_
      refine rj_goto dX11_checksum_44 rfl ?_
      have e : bX11_checksum_16 μ j16 s16 = (((31) * s16) + (μ.2.1 42 (nI j16).toNatClampNeg)) := by unfold bX11_checksum_16; rfl
      exact rj_sub (l' := [(0, .ref (ω.2.2 0)), (1, .long (((31) * s16) + (μ.2.1 42 (nI j16).toNatClampNeg))), (3, .int (nI (j16 + 1)))]) [2, 1, 0] rfl (ih (j16 + 1) (((31) * s16) + (μ.2.1 42 (nI j16).toNatClampNeg)) (by omega) (by rw [rj_fo_s, e] at K; exact K))
def fX11_checksum (μ : rj_M) : Int64 := (rj_fo (bX11_checksum_16 μ) 12 0 (fX7_sumUp μ (7)))
set_option maxHeartbeats 4000000 in
set_option maxRecDepth 100000 in
theorem sX11_checksum {g : rj_G} {ω : rj_W} (hω : rj_ok ω) (μ : rj_M)   : rj_Sp g yX11_checksum wsX11_checksum (rj_rm 2 0) [.ref (ω.2.2 0)] ω μ (rj_D (.inl (some (.long (fX11_checksum μ)))) ω μ) := by
  refine rj_of' (cc := cX11_checksum) (nL := 4) (ret := (some .long)) (own := RX11) (l0 := [(0, .ref (ω.2.2 0))]) rfl (by decide +kernel) rfl (Nat.le_of_ble_eq_true rfl) rfl ?_
  refine rj_aload_n 0 dX11_checksum_0 rfl rfl ?_
  refine rj_getR (C0 := RX11) (T := TX11) (N := 6) (j := 0) (r := 1) dX11_checksum_1 rfl vX11_checksum_11 rfl (rj_lt hω (k := 0) rfl) (rj_sh hω ly_0) (by decide) kX11_checksum_12 rfl ?_
  refine rj_getR (C0 := RX5) (T := TX5) (N := 8) (j := 2) (r := 8) dX11_checksum_4 rfl vX11_checksum_5 rfl (rj_lt hω (k := 1) rfl) (rj_sh hω ly_1) (by decide) kX11_checksum_26 rfl ?_
  refine rj_ldc2 (v := (7)) dX11_checksum_7 rfl (by decide +kernel) ?_
  refine rj_cV (rest := []) (sX7_sumUp (g := g) (ω := ω) hω μ (7)   ) gX11_checksum_X7_sumUp (rj_lt hω (k := 8) rfl) (rj_sh hω ly_8) rfl rfl hVX7_sumUp ⟨Nat.le_of_ble_eq_true rfl, Nat.le_of_ble_eq_true rfl⟩ dX11_checksum_10 rfl rfl rfl (Nat.le_of_ble_eq_true rfl) rfl (Nat.le_of_ble_eq_true rfl) rfl ?_
  refine rj_lstore_n (l' := [(1, .long (fX7_sumUp μ (7))), (0, .ref (ω.2.2 0))]) dX11_checksum_13 rfl (rj_bl rfl) rfl ?_
  refine rj_iconst (v := 0) dX11_checksum_14 rfl (by decide) ?_
  refine rj_istore_n (l' := [(3, .int 0), (1, .long (fX7_sumUp μ (7))), (0, .ref (ω.2.2 0))]) dX11_checksum_15 rfl (rj_bl rfl) rfl ?_
  refine rj_sub (l' := [(0, .ref (ω.2.2 0)), (1, .long (fX7_sumUp μ (7))), (3, .int (nI 0))]) [2, 1, 0] rfl ?_
  refine lX11_checksum_16 hω μ     12 0 (fX7_sumUp μ (7)) rfl ?_
  refine rj_lload_n 1 dX11_checksum_47 rfl rfl ?_
  exact rj_lret dX11_checksum_48 rfl (Nat.le_of_ble_eq_true rfl) (Nat.le_of_ble_eq_true rfl) ⟨(by unfold fX11_checksum; rfl), rfl, rfl⟩
theorem hSX11_areEveningsRight : yX11_areEveningsRight.cls ≠ "java/lang/invoke/MethodHandle" ∧ yX11_areEveningsRight.cls ≠ "java/lang/invoke/VarHandle" ∧ (parseMethodDescriptor yX11_areEveningsRight.desc).map (fun d => d.parameters.length) = some 0 := by decide +kernel
theorem hVX11_areEveningsRight : yX11_areEveningsRight.cls = RX11 ∧ yX11_areEveningsRight.cls ≠ "java/lang/invoke/MethodHandle" ∧ yX11_areEveningsRight.cls ≠ "java/lang/invoke/VarHandle" ∧ (parseMethodDescriptor yX11_areEveningsRight.desc).map (fun d => d.parameters.length) = some 0 := by decide +kernel
theorem vX11_areEveningsRight_11 : ∀ w ∈ u_ws RX11 TX11 6, w ∈ wsX11_areEveningsRight := by decide +kernel
theorem kX11_areEveningsRight_33 : Cond.fieldLink RX11 33 (TX11 2).1 (TX11 2).2.1 (TX11 2).2.2.1 ∈ wsX11_areEveningsRight := by decide +kernel
def bX11_areEveningsRight_18 (μ : rj_M) (j2 : Nat) (s2 : rj_M) (j18 : Nat) (s18 : Unit) : Unit ⊕ Unit := (if (fX2_weightOn (mX2_planFor s2 (nI j2)) (nI j18)) = (fX2_greatestPrice (mX2_planFor s2 (nI j2)) (nI j18)) then .inl () else .inr ())
set_option maxHeartbeats 4000000 in
set_option maxRecDepth 100000 in
theorem lX11_areEveningsRight_18 {g : rj_G} {ω : rj_W} (hω : rj_ok ω) (μ : rj_M) (j2 : Nat) (s2 : rj_M)   (hl2 : j2 < 12)  {P : rj_P} : ∀ (r j : Nat) (s : Unit), j + r = 4 → (∀ z : Unit, rj_ix (bX11_areEveningsRight_18 μ j2 s2) r j s = .inl z → rj_R g RX11 cX11_areEveningsRight 3 (some .boolean) wsX11_areEveningsRight [] (rj_rm 5 0) (rj_E g (rj_rm 5 0) P) 0 ω (mX2_planFor s2 (nI j2)) [(0, .ref (ω.2.2 0)), (1, .int (nI j2)), (2, .int (nI 4))] 50 []) → (∀ z : Unit, rj_ix (bX11_areEveningsRight_18 μ j2 s2) r j s = .inr z → P (.inl (some (.int 0))) ω (mX2_planFor s2 (nI j2))) → rj_R g RX11 cX11_areEveningsRight 3 (some .boolean) wsX11_areEveningsRight [] (rj_rm 5 0) (rj_E g (rj_rm 5 0) P) 0 ω (mX2_planFor s2 (nI j2)) [(0, .ref (ω.2.2 0)), (1, .int (nI j2)), (2, .int (nI j))] 18 [] := by
  intro r
  induction r with
  | zero =>
    intro j s hj K K2
    have e0 : j = 4 := by omega
    have hge : 4 ≤ nI j := by
      rw [e0]
      exact Int32.le_refl _
    refine rj_iload_n 2 dX11_areEveningsRight_18 rfl rfl ?_
    refine rj_iconst (v := 4) dX11_areEveningsRight_19 rfl (by decide) ?_
    refine rj_icmp_ge dX11_areEveningsRight_20 rfl rfl (fun h4 => ?_) (fun h4 => ?_)
    · have e1 : nI j = nI 4 := by rw [e0]
      rw [e1]
      exact K s rfl
    · exact absurd hge h4
  | succ r ih =>
    intro j18 s18 hj K K2
    have hl18 : j18 < 4 := by omega
    have hg18 : ¬ 4 ≤ nI j18 := nI_ge hl18 (rj_bl rfl)
    refine rj_iload_n 2 dX11_areEveningsRight_18 rfl rfl ?_
    refine rj_iconst (v := 4) dX11_areEveningsRight_19 rfl (by decide) ?_
    refine rj_icmp_ge dX11_areEveningsRight_20 rfl rfl (fun h2 => ?_) (fun h2 => ?_)
    · exact absurd h2 hg18
    · refine rj_aload_n 0 dX11_areEveningsRight_23 rfl rfl ?_
      refine rj_getR (C0 := RX11) (T := TX11) (N := 6) (j := 2) (r := 45) dX11_areEveningsRight_24 rfl vX11_areEveningsRight_11 rfl (rj_lt hω (k := 0) rfl) (rj_sh hω ly_0) (by decide) kX11_areEveningsRight_33 rfl ?_
      refine rj_iload_n 2 dX11_areEveningsRight_27 rfl rfl ?_
      refine rj_cV (rest := []) (sX2_weightOn (g := g) (ω := ω) hω (mX2_planFor s2 (nI j2)) (nI j18)   ) gX11_areEveningsRight_X2_weightOn (rj_lt hω (k := 45) rfl) (rj_sh hω ly_45) rfl rfl hVX2_weightOn ⟨Nat.le_of_ble_eq_true rfl, Nat.le_of_ble_eq_true rfl⟩ dX11_areEveningsRight_28 rfl rfl rfl (Nat.le_of_ble_eq_true rfl) rfl (Nat.le_of_ble_eq_true rfl) rfl ?_
      refine rj_aload_n 0 dX11_areEveningsRight_31 rfl rfl ?_
      refine rj_getR (C0 := RX11) (T := TX11) (N := 6) (j := 2) (r := 45) dX11_areEveningsRight_32 rfl vX11_areEveningsRight_11 rfl (rj_lt hω (k := 0) rfl) (rj_sh hω ly_0) (by decide) kX11_areEveningsRight_33 rfl ?_
      refine rj_iload_n 2 dX11_areEveningsRight_35 rfl rfl ?_
      refine rj_cV (rest := [.int (fX2_weightOn (mX2_planFor s2 (nI j2)) (nI j18))]) (sX2_greatestPrice (g := g) (ω := ω) hω (mX2_planFor s2 (nI j2)) (nI j18)   ) gX11_areEveningsRight_X2_greatestPrice (rj_lt hω (k := 45) rfl) (rj_sh hω ly_45) rfl rfl hVX2_greatestPrice ⟨Nat.le_of_ble_eq_true rfl, Nat.le_of_ble_eq_true rfl⟩ dX11_areEveningsRight_36 rfl rfl rfl (Nat.le_of_ble_eq_true rfl) rfl (Nat.le_of_ble_eq_true rfl) rfl ?_
      refine rj_icmp_eq dX11_areEveningsRight_39 rfl rfl (fun h3 => ?_) (fun h3 => ?_)
      · refine rj_iinc (v := nI (j18 + 1)) (l' := [(2, .int (nI (j18 + 1))), (0, .ref (ω.2.2 0)), (1, .int (nI j2))]) 2 dX11_areEveningsRight_44 rfl rfl (nI_succ j18).symm (rj_bl rfl) rfl ?_
        refine rj_goto dX11_areEveningsRight_47 rfl ?_
        have e : bX11_areEveningsRight_18 μ j2 s2 j18 s18 = .inl () := by unfold bX11_areEveningsRight_18; rw [if_pos h3]; try rfl
        exact rj_sub (l' := [(0, .ref (ω.2.2 0)), (1, .int (nI j2)), (2, .int (nI (j18 + 1)))]) [1, 2, 0] rfl (ih (j18 + 1) () (by omega) (fun z hz => K z (by rw [rj_ix_l e]; exact hz)) (fun z hz => K2 z (by rw [rj_ix_l e]; exact hz)))
      · refine rj_iconst (v := 0) dX11_areEveningsRight_42 rfl (by decide) ?_
        have e : bX11_areEveningsRight_18 μ j2 s2 j18 s18 = .inr () := by unfold bX11_areEveningsRight_18; rw [if_neg h3]; try rfl
        exact rj_zret dX11_areEveningsRight_43 rfl rfl (Nat.le_of_ble_eq_true rfl) (Nat.le_of_ble_eq_true rfl) (K2 () (rj_ix_r e))
def bX11_areEveningsRight_2 (μ : rj_M) (j2 : Nat) (s2 : rj_M) : rj_M ⊕ rj_M := (Sum.elim (fun z18 => .inl (mX2_planFor s2 (nI j2))) (fun w18 => .inr (mX2_planFor s2 (nI j2))) (rj_ix (bX11_areEveningsRight_18 μ j2 s2) 4 0 ()))
set_option maxHeartbeats 4000000 in
set_option maxRecDepth 100000 in
theorem lX11_areEveningsRight_2 {g : rj_G} {ω : rj_W} (hω : rj_ok ω) (μ : rj_M)     {P : rj_P} : ∀ (r j : Nat) (s : rj_M), j + r = 12 → (∀ z : rj_M, rj_ix (bX11_areEveningsRight_2 μ) r j s = .inl z → rj_R g RX11 cX11_areEveningsRight 3 (some .boolean) wsX11_areEveningsRight [] (rj_rm 5 0) (rj_E g (rj_rm 5 0) P) 0 ω z [(0, .ref (ω.2.2 0)), (1, .int (nI 12))] 56 []) → (∀ z : rj_M, rj_ix (bX11_areEveningsRight_2 μ) r j s = .inr z → P (.inl (some (.int 0))) ω z) → rj_R g RX11 cX11_areEveningsRight 3 (some .boolean) wsX11_areEveningsRight [] (rj_rm 5 0) (rj_E g (rj_rm 5 0) P) 0 ω s [(0, .ref (ω.2.2 0)), (1, .int (nI j))] 2 [] := by
  intro r
  induction r with
  | zero =>
    intro j s hj K K2
    have e0 : j = 12 := by omega
    have hge : 12 ≤ nI j := by
      rw [e0]
      exact Int32.le_refl _
    refine rj_iload_n 1 dX11_areEveningsRight_2 rfl rfl ?_
    refine rj_bipush (v := 12) dX11_areEveningsRight_3 rfl (by decide) ?_
    refine rj_icmp_ge dX11_areEveningsRight_5 rfl rfl (fun h5 => ?_) (fun h5 => ?_)
    · have e1 : nI j = nI 12 := by rw [e0]
      rw [e1]
      exact K s rfl
    · exact absurd hge h5
  | succ r ih =>
    intro j2 s2 hj K K2
    have hl2 : j2 < 12 := by omega
    have hg2 : ¬ 12 ≤ nI j2 := nI_ge hl2 (rj_bl rfl)
    refine rj_iload_n 1 dX11_areEveningsRight_2 rfl rfl ?_
    refine rj_bipush (v := 12) dX11_areEveningsRight_3 rfl (by decide) ?_
    refine rj_icmp_ge dX11_areEveningsRight_5 rfl rfl (fun h1 => ?_) (fun h1 => ?_)
    · exact absurd h1 hg2
    · refine rj_aload_n 0 dX11_areEveningsRight_8 rfl rfl ?_
      refine rj_getR (C0 := RX11) (T := TX11) (N := 6) (j := 2) (r := 45) dX11_areEveningsRight_9 rfl vX11_areEveningsRight_11 rfl (rj_lt hω (k := 0) rfl) (rj_sh hω ly_0) (by decide) kX11_areEveningsRight_33 rfl ?_
      refine rj_iload_n 1 dX11_areEveningsRight_12 rfl rfl ?_
      refine rj_cV (rest := []) (sX2_planFor (g := g) (ω := ω) hω s2 (nI j2)   ) gX11_areEveningsRight_X2_planFor (rj_lt hω (k := 45) rfl) (rj_sh hω ly_45) rfl rfl hVX2_planFor ⟨Nat.le_of_ble_eq_true rfl, Nat.le_of_ble_eq_true rfl⟩ dX11_areEveningsRight_13 rfl rfl rfl (Nat.le_of_ble_eq_true rfl) rfl (Nat.le_of_ble_eq_true rfl) rfl ?_
      refine rj_iconst (v := 0) dX11_areEveningsRight_16 rfl (by decide) ?_
      refine rj_istore_n (l' := [(2, .int 0), (0, .ref (ω.2.2 0)), (1, .int (nI j2))]) dX11_areEveningsRight_17 rfl (rj_bl rfl) rfl ?_
      refine rj_sub (l' := [(0, .ref (ω.2.2 0)), (1, .int (nI j2)), (2, .int (nI 0))]) [1, 2, 0] rfl ?_
      refine lX11_areEveningsRight_18 hω μ j2 s2   hl2  4 0 () rfl (fun z18 hz18 => ?_) (fun w18 hw18 => ?_)
      · refine rj_iinc (v := nI (j2 + 1)) (l' := [(1, .int (nI (j2 + 1))), (0, .ref (ω.2.2 0)), (2, .int (nI 4))]) 1 dX11_areEveningsRight_50 rfl rfl (nI_succ j2).symm (rj_bl rfl) rfl ?_
        refine rj_goto dX11_areEveningsRight_53 rfl ?_
        have e : bX11_areEveningsRight_2 μ j2 s2 = .inl (mX2_planFor s2 (nI j2)) := by unfold bX11_areEveningsRight_2; rw [hz18]; simp only [Sum.elim_inl]; try rfl
        exact rj_sub (l' := [(0, .ref (ω.2.2 0)), (1, .int (nI (j2 + 1)))]) [1, 0] rfl (ih (j2 + 1) (mX2_planFor s2 (nI j2)) (by omega) (fun z hz => K z (by rw [rj_ix_l e]; exact hz)) (fun z hz => K2 z (by rw [rj_ix_l e]; exact hz)))
      · have e : bX11_areEveningsRight_2 μ j2 s2 = .inr (mX2_planFor s2 (nI j2)) := by unfold bX11_areEveningsRight_2; rw [hw18]; simp only [Sum.elim_inr]; try rfl
        exact K2 (mX2_planFor s2 (nI j2)) (rj_ix_r e)
def fX11_areEveningsRight (μ : rj_M) : Int32 := (Sum.elim (fun z2 => 1) (fun w2 => 0) (rj_ix (bX11_areEveningsRight_2 μ) 12 0 μ))
def mX11_areEveningsRight (μ : rj_M) : rj_M := (Sum.elim (fun z2 => z2) (fun w2 => w2) (rj_ix (bX11_areEveningsRight_2 μ) 12 0 μ))
set_option maxHeartbeats 4000000 in
set_option maxRecDepth 100000 in
theorem sX11_areEveningsRight {g : rj_G} {ω : rj_W} (hω : rj_ok ω) (μ : rj_M)   : rj_Sp g yX11_areEveningsRight wsX11_areEveningsRight (rj_rm 5 0) [.ref (ω.2.2 0)] ω μ (rj_D (.inl (some (.int (fX11_areEveningsRight μ)))) ω (mX11_areEveningsRight μ)) := by
  refine rj_of' (cc := cX11_areEveningsRight) (nL := 3) (ret := (some .boolean)) (own := RX11) (l0 := [(0, .ref (ω.2.2 0))]) rfl (by decide +kernel) rfl (Nat.le_of_ble_eq_true rfl) rfl ?_
  refine rj_iconst (v := 0) dX11_areEveningsRight_0 rfl (by decide) ?_
  refine rj_istore_n (l' := [(1, .int 0), (0, .ref (ω.2.2 0))]) dX11_areEveningsRight_1 rfl (rj_bl rfl) rfl ?_
  refine rj_sub (l' := [(0, .ref (ω.2.2 0)), (1, .int (nI 0))]) [1, 0] rfl ?_
  refine lX11_areEveningsRight_2 hω μ     12 0 μ rfl (fun z2 hz2 => ?_) (fun w2 hw2 => ?_)
  · refine rj_iconst (v := 1) dX11_areEveningsRight_56 rfl (by decide) ?_
    exact rj_zret dX11_areEveningsRight_57 rfl rfl (Nat.le_of_ble_eq_true rfl) (Nat.le_of_ble_eq_true rfl) ⟨(by unfold fX11_areEveningsRight; rw [hz2]; simp only [Sum.elim_inl]; try rfl), rfl, (by unfold mX11_areEveningsRight; rw [hz2]; simp only [Sum.elim_inl]; try rfl)⟩
  · exact ⟨(by unfold fX11_areEveningsRight; rw [hw2]; simp only [Sum.elim_inr]; try rfl), rfl, (by unfold mX11_areEveningsRight; rw [hw2]; simp only [Sum.elim_inr]; try rfl)⟩
theorem nX11_areEveningsRight (μ : rj_M) : narrow .boolean (.int (fX11_areEveningsRight μ)) = .int (fX11_areEveningsRight μ) := by
  unfold fX11_areEveningsRight
  generalize (rj_ix (bX11_areEveningsRight_2 μ) 12 0 μ) = x
  cases x with
  | inl z2 =>
    simp only [Sum.elim_inl]
    rfl
  | inr w2 =>
    simp only [Sum.elim_inr]
    rfl
theorem hSX11_proof : yX11_proof.cls ≠ "java/lang/invoke/MethodHandle" ∧ yX11_proof.cls ≠ "java/lang/invoke/VarHandle" ∧ (parseMethodDescriptor yX11_proof.desc).map (fun d => d.parameters.length) = some 0 := by decide +kernel
theorem hVX11_proof : yX11_proof.cls = RX11 ∧ yX11_proof.cls ≠ "java/lang/invoke/MethodHandle" ∧ yX11_proof.cls ≠ "java/lang/invoke/VarHandle" ∧ (parseMethodDescriptor yX11_proof.desc).map (fun d => d.parameters.length) = some 0 := by decide +kernel
theorem vX11_proof_11 : ∀ w ∈ u_ws RX11 TX11 6, w ∈ wsX11_proof := by decide +kernel
theorem kX11_proof_12 : Cond.fieldLink RX11 12 (TX11 0).1 (TX11 0).2.1 (TX11 0).2.2.1 ∈ wsX11_proof := by decide +kernel
theorem vX11_proof_5 : ∀ w ∈ u_ws RX5 TX5 8, w ∈ wsX11_proof := by decide +kernel
theorem kX11_proof_181 : Cond.fieldLink RX11 181 (TX5 5).1 (TX5 5).2.1 (TX5 5).2.2.1 ∈ wsX11_proof := by decide +kernel
def fX11_proof (μ : rj_M) : Int32 := (fX10_neediestHours μ)
def mX11_proof (μ : rj_M) : rj_M := (mX10_neediestHours μ)
set_option maxHeartbeats 4000000 in
set_option maxRecDepth 100000 in
theorem sX11_proof {g : rj_G} {ω : rj_W} (hω : rj_ok ω) (μ : rj_M)   : rj_Sp g yX11_proof wsX11_proof (rj_rm 2 0) [.ref (ω.2.2 0)] ω μ (rj_D (.inl (some (.int (fX11_proof μ)))) ω (mX11_proof μ)) := by
  refine rj_of' (cc := cX11_proof) (nL := 1) (ret := (some .int)) (own := RX11) (l0 := [(0, .ref (ω.2.2 0))]) rfl (by decide +kernel) rfl (Nat.le_of_ble_eq_true rfl) rfl ?_
  refine rj_aload_n 0 dX11_proof_0 rfl rfl ?_
  refine rj_getR (C0 := RX11) (T := TX11) (N := 6) (j := 0) (r := 1) dX11_proof_1 rfl vX11_proof_11 rfl (rj_lt hω (k := 0) rfl) (rj_sh hω ly_0) (by decide) kX11_proof_12 rfl ?_
  refine rj_getR (C0 := RX5) (T := TX5) (N := 8) (j := 5) (r := 26) dX11_proof_4 rfl vX11_proof_5 rfl (rj_lt hω (k := 1) rfl) (rj_sh hω ly_1) (by decide) kX11_proof_181 rfl ?_
  refine rj_cV (rest := []) (sX10_neediestHours (g := g) (ω := ω) hω μ   ) gX11_proof_X10_neediestHours (rj_lt hω (k := 26) rfl) (rj_sh hω ly_26) rfl rfl hVX10_neediestHours ⟨Nat.le_of_ble_eq_true rfl, Nat.le_of_ble_eq_true rfl⟩ dX11_proof_7 rfl rfl rfl (Nat.le_of_ble_eq_true rfl) rfl (Nat.le_of_ble_eq_true rfl) rfl ?_
  exact rj_iret dX11_proof_10 rfl (Nat.le_of_ble_eq_true rfl) (Nat.le_of_ble_eq_true rfl) ⟨(by unfold fX11_proof; rfl), rfl, (by unfold mX11_proof; rfl)⟩
