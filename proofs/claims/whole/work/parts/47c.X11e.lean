theorem hSX11_join : yX11_join.cls ≠ "java/lang/invoke/MethodHandle" ∧ yX11_join.cls ≠ "java/lang/invoke/VarHandle" ∧ (parseMethodDescriptor yX11_join.desc).map (fun d => d.parameters.length) = some 2 := by decide +kernel
theorem hVX11_join : yX11_join.cls = RX11 ∧ yX11_join.cls ≠ "java/lang/invoke/MethodHandle" ∧ yX11_join.cls ≠ "java/lang/invoke/VarHandle" ∧ (parseMethodDescriptor yX11_join.desc).map (fun d => d.parameters.length) = some 2 := by decide +kernel
theorem vX11_join_11 : ∀ w ∈ u_ws RX11 TX11 6, w ∈ wsX11_join := by decide +kernel
theorem kX11_join_12 : Cond.fieldLink RX11 12 (TX11 0).1 (TX11 0).2.1 (TX11 0).2.2.1 ∈ wsX11_join := by decide +kernel
theorem vX11_join_5 : ∀ w ∈ u_ws RX5 TX5 8, w ∈ wsX11_join := by decide +kernel
theorem kX11_join_150 : Cond.fieldLink RX11 150 (TX5 4).1 (TX5 4).2.1 (TX5 4).2.2.1 ∈ wsX11_join := by decide +kernel
theorem xkX11_join_108 : Cond.classLink RX11 108 "java/lang/IllegalStateException" ∈ wsX11_join := by decide +kernel
theorem xiX11_join_108 : Cond.initialized "java/lang/IllegalStateException" ∈ wsX11_join := by decide +kernel
theorem xaX11_join_112 : ∀ w ∈ (vx_atS RX11 112 "java/lang/IllegalStateException" rj_exn).filter goodWord, w ∈ wsX11_join := by decide +kernel
theorem xbX11_join_112 : ∀ w ∈ (vx_atS RX11 112 "java/lang/IllegalStateException" rj_exn).filter (fun w => !goodWord w), w ∈ Cond.castable "java/lang/IllegalStateException" "java/lang/IllegalStateException" :: rj_dc.map Cond.declares := by decide +kernel
theorem xgX11_join_112 : ∀ w ∈ Cond.classLink RX11 108 "java/lang/IllegalStateException" :: Cond.initialized "java/lang/IllegalStateException" :: vx_atS RX11 112 "java/lang/IllegalStateException" rj_exn, vx_ot w = true := by decide +kernel
def fX11_join (μ : rj_M) (a0 : Int32) (a1 : Int32) : Int32 ⊕ String := (rj_bx (fX11_needPlace μ a0 3) (rj_bx (fX11_needPlace μ a1 12) (if (fX0_barOf μ a1) = (-1) then (.inl (fX0_minutesTill (mX0_enter (mX11_beginChange μ) a0 a1) a1)) else (.inr "java/lang/IllegalStateException"))))
def mX11_join (μ : rj_M) (a0 : Int32) (a1 : Int32) : rj_M := (rj_bm (fX11_needPlace μ a0 3) (rj_bm (fX11_needPlace μ a1 12) (if (fX0_barOf μ a1) = (-1) then (mX0_enter (mX11_beginChange μ) a0 a1) else μ) μ) μ)
def qX11_join (μ : rj_M) (a0 : Int32) (a1 : Int32) : Prop := (rq_bx (fX11_needPlace μ a0 3) (rq_bx (fX11_needPlace μ a1 12) (if (fX0_barOf μ a1) = (-1) then (qX11_beginChange μ ∧ True) else True)))
set_option maxHeartbeats 40000000 in
set_option maxRecDepth 100000 in
theorem sX11_join {g : rj_G} {ω : rj_W} (hω : rj_ok ω) (μ : rj_M) (a0 : Int32) (a1 : Int32)   (hq : qX11_join μ a0 a1) : rj_Sp g yX11_join wsX11_join (rj_rm 7 3) [.ref (ω.2.2 0), .int a0, .int a1] ω μ (rj_D (rj_oi (fX11_join μ a0 a1)) ω (mX11_join μ a0 a1)) := by
  have hqa := hq
  unfold qX11_join at hqa
  refine rj_of' (cc := cX11_join) (nL := 3) (ret := (some .int)) (own := RX11) (l0 := [(0, .ref (ω.2.2 0)), (1, .int a0), (2, .int a1)]) rfl (by decide +kernel) rfl (Nat.le_of_ble_eq_true rfl) rfl ?_
  refine rj_iload_n 1 dX11_join_0 rfl rfl ?_
  refine rj_iconst (v := 3) dX11_join_1 rfl (by decide) ?_
  refine rj_cSx (rest := []) (sX11_needPlace (g := g) (ω := ω) hω μ a0 3   ) gX11_join_X11_needPlace rfl hSX11_needPlace ⟨Nat.le_of_ble_eq_true rfl, Nat.le_of_ble_eq_true rfl⟩ dX11_join_2 rfl rfl rfl (Nat.le_of_ble_eq_true rfl) rfl (Nat.le_of_ble_eq_true rfl) (fun E hE2 => ?_) (fun hx1 => ?_)
  · exact ⟨(by unfold fX11_join; try (rw [hE2]); try (simp only [rj_bx]); try rfl), rfl, (by unfold mX11_join; try (rw [hE2]); try (simp only [rj_bm]); try rfl)⟩
  · have hq1 := hqa; rw [hx1] at hq1; simp only [rq_bx] at hq1
    refine rj_iload_n 2 dX11_join_5 rfl rfl ?_
    refine rj_bipush (v := 12) dX11_join_6 rfl (by decide) ?_
    refine rj_cSx (rest := []) (sX11_needPlace (g := g) (ω := ω) hω μ a1 12   ) gX11_join_X11_needPlace rfl hSX11_needPlace ⟨Nat.le_of_ble_eq_true rfl, Nat.le_of_ble_eq_true rfl⟩ dX11_join_8 rfl rfl rfl (Nat.le_of_ble_eq_true rfl) rfl (Nat.le_of_ble_eq_true rfl) (fun E hE4 => ?_) (fun hx3 => ?_)
    · exact ⟨(by unfold fX11_join; try (rw [hx1]); try (simp only [rj_bx]); try (rw [hE4]); try (simp only [rj_bx]); try rfl), rfl, (by unfold mX11_join; try (rw [hx1]); try (simp only [rj_bm]); try (rw [hE4]); try (simp only [rj_bm]); try rfl)⟩
    · have hq2 := hq1; rw [hx3] at hq2; simp only [rq_bx] at hq2
      refine rj_aload_n 0 dX11_join_11 rfl rfl ?_
      refine rj_getR (C0 := RX11) (T := TX11) (N := 6) (j := 0) (r := 1) dX11_join_12 rfl vX11_join_11 rfl (rj_lt hω (k := 0) rfl) (rj_sh hω ly_0) (by decide) kX11_join_12 rfl ?_
      refine rj_getR (C0 := RX5) (T := TX5) (N := 8) (j := 4) (r := 21) dX11_join_15 rfl vX11_join_5 rfl (rj_lt hω (k := 1) rfl) (rj_sh hω ly_1) (by decide) kX11_join_150 rfl ?_
      refine rj_iload_n 2 dX11_join_18 rfl rfl ?_
      refine rj_cV (rest := []) (sX0_barOf (g := g) (ω := ω) hω μ a1   ) gX11_join_X0_barOf (rj_lt hω (k := 21) rfl) (rj_sh hω ly_21) rfl rfl hVX0_barOf ⟨Nat.le_of_ble_eq_true rfl, Nat.le_of_ble_eq_true rfl⟩ dX11_join_19 rfl rfl rfl (Nat.le_of_ble_eq_true rfl) rfl (Nat.le_of_ble_eq_true rfl) rfl ?_
      refine rj_iconst (v := (-1)) dX11_join_22 rfl (by decide) ?_
      refine rj_icmp_eq dX11_join_23 rfl rfl (fun h5 => ?_) (fun h5 => ?_)
      · have hq3 := hq2; rw [if_pos h5] at hq3
        refine rj_aload_n 0 dX11_join_36 rfl rfl ?_
        refine rj_cV (rest := []) (sX11_beginChange (g := g) (ω := ω) hω μ   (hq3).1) gX11_join_X11_beginChange (rj_lt hω (k := 0) rfl) (rj_sh hω ly_0) rfl rfl hVX11_beginChange ⟨Nat.le_of_ble_eq_true rfl, Nat.le_of_ble_eq_true rfl⟩ dX11_join_37 rfl rfl rfl (Nat.le_of_ble_eq_true rfl) rfl (Nat.le_of_ble_eq_true rfl) rfl ?_
        refine rj_aload_n 0 dX11_join_40 rfl rfl ?_
        refine rj_getR (C0 := RX11) (T := TX11) (N := 6) (j := 0) (r := 1) dX11_join_41 rfl vX11_join_11 rfl (rj_lt hω (k := 0) rfl) (rj_sh hω ly_0) (by decide) kX11_join_12 rfl ?_
        refine rj_getR (C0 := RX5) (T := TX5) (N := 8) (j := 4) (r := 21) dX11_join_44 rfl vX11_join_5 rfl (rj_lt hω (k := 1) rfl) (rj_sh hω ly_1) (by decide) kX11_join_150 rfl ?_
        refine rj_iload_n 1 dX11_join_47 rfl rfl ?_
        refine rj_iload_n 2 dX11_join_48 rfl rfl ?_
        refine rj_cV (rest := []) (sX0_enter (g := g) (ω := ω) hω (mX11_beginChange μ) a0 a1   ) gX11_join_X0_enter (rj_lt hω (k := 21) rfl) (rj_sh hω ly_21) rfl rfl hVX0_enter ⟨Nat.le_of_ble_eq_true rfl, Nat.le_of_ble_eq_true rfl⟩ dX11_join_49 rfl rfl rfl (Nat.le_of_ble_eq_true rfl) rfl (Nat.le_of_ble_eq_true rfl) rfl ?_
        refine rj_aload_n 0 dX11_join_52 rfl rfl ?_
        refine rj_getR (C0 := RX11) (T := TX11) (N := 6) (j := 0) (r := 1) dX11_join_53 rfl vX11_join_11 rfl (rj_lt hω (k := 0) rfl) (rj_sh hω ly_0) (by decide) kX11_join_12 rfl ?_
        refine rj_getR (C0 := RX5) (T := TX5) (N := 8) (j := 4) (r := 21) dX11_join_56 rfl vX11_join_5 rfl (rj_lt hω (k := 1) rfl) (rj_sh hω ly_1) (by decide) kX11_join_150 rfl ?_
        refine rj_iload_n 2 dX11_join_59 rfl rfl ?_
        refine rj_cV (rest := []) (sX0_minutesTill (g := g) (ω := ω) hω (mX0_enter (mX11_beginChange μ) a0 a1) a1   ) gX11_join_X0_minutesTill (rj_lt hω (k := 21) rfl) (rj_sh hω ly_21) rfl rfl hVX0_minutesTill ⟨Nat.le_of_ble_eq_true rfl, Nat.le_of_ble_eq_true rfl⟩ dX11_join_60 rfl rfl rfl (Nat.le_of_ble_eq_true rfl) rfl (Nat.le_of_ble_eq_true rfl) rfl ?_
        exact rj_iret dX11_join_63 rfl (Nat.le_of_ble_eq_true rfl) (Nat.le_of_ble_eq_true rfl) ⟨(by unfold fX11_join; try (rw [hx1]); try (simp only [rj_bx]); try (rw [hx3]); try (simp only [rj_bx]); try (rw [if_pos h5]); try rfl), rfl, (by unfold mX11_join; try (rw [hx1]); try (simp only [rj_bm]); try (rw [hx3]); try (simp only [rj_bm]); try (rw [if_pos h5]); try rfl)⟩
      · have hq4 := hq2; rw [if_neg h5] at hq4
        exact rj_throwL (cls := "java/lang/IllegalStateException") (text := "the visitor is in a line") dX11_join_26 rfl dX11_join_29 rfl dX11_join_30 rfl dX11_join_32 rfl dX11_join_35 (by decide +kernel) xkX11_join_108 xiX11_join_108 (by decide +kernel) xaX11_join_112 xbX11_join_112 (by decide) xgX11_join_112 (Nat.le_of_ble_eq_true rfl) (Nat.le_of_ble_eq_true rfl) (Nat.le_of_ble_eq_true rfl) ⟨(by unfold fX11_join; try (rw [hx1]); try (simp only [rj_bx]); try (rw [hx3]); try (simp only [rj_bx]); try (rw [if_neg h5]); try rfl), rfl, (by unfold mX11_join; try (rw [hx1]); try (simp only [rj_bm]); try (rw [hx3]); try (simp only [rj_bm]); try (rw [if_neg h5]); try rfl)⟩
theorem hSX11_leave : yX11_leave.cls ≠ "java/lang/invoke/MethodHandle" ∧ yX11_leave.cls ≠ "java/lang/invoke/VarHandle" ∧ (parseMethodDescriptor yX11_leave.desc).map (fun d => d.parameters.length) = some 1 := by decide +kernel
theorem hVX11_leave : yX11_leave.cls = RX11 ∧ yX11_leave.cls ≠ "java/lang/invoke/MethodHandle" ∧ yX11_leave.cls ≠ "java/lang/invoke/VarHandle" ∧ (parseMethodDescriptor yX11_leave.desc).map (fun d => d.parameters.length) = some 1 := by decide +kernel
theorem vX11_leave_11 : ∀ w ∈ u_ws RX11 TX11 6, w ∈ wsX11_leave := by decide +kernel
theorem kX11_leave_12 : Cond.fieldLink RX11 12 (TX11 0).1 (TX11 0).2.1 (TX11 0).2.2.1 ∈ wsX11_leave := by decide +kernel
theorem vX11_leave_5 : ∀ w ∈ u_ws RX5 TX5 8, w ∈ wsX11_leave := by decide +kernel
theorem kX11_leave_150 : Cond.fieldLink RX11 150 (TX5 4).1 (TX5 4).2.1 (TX5 4).2.2.1 ∈ wsX11_leave := by decide +kernel
theorem xkX11_leave_108 : Cond.classLink RX11 108 "java/lang/IllegalStateException" ∈ wsX11_leave := by decide +kernel
theorem xiX11_leave_108 : Cond.initialized "java/lang/IllegalStateException" ∈ wsX11_leave := by decide +kernel
theorem xaX11_leave_112 : ∀ w ∈ (vx_atS RX11 112 "java/lang/IllegalStateException" rj_exn).filter goodWord, w ∈ wsX11_leave := by decide +kernel
theorem xbX11_leave_112 : ∀ w ∈ (vx_atS RX11 112 "java/lang/IllegalStateException" rj_exn).filter (fun w => !goodWord w), w ∈ Cond.castable "java/lang/IllegalStateException" "java/lang/IllegalStateException" :: rj_dc.map Cond.declares := by decide +kernel
theorem xgX11_leave_112 : ∀ w ∈ Cond.classLink RX11 108 "java/lang/IllegalStateException" :: Cond.initialized "java/lang/IllegalStateException" :: vx_atS RX11 112 "java/lang/IllegalStateException" rj_exn, vx_ot w = true := by decide +kernel
def fX11_leave (μ : rj_M) (a0 : Int32) : Int32 ⊕ String := (rj_bx (fX11_needPlace μ a0 12) (if (fX0_barOf μ a0) = (-1) then (.inr "java/lang/IllegalStateException") else (.inl (fX0_barOf μ a0))))
def mX11_leave (μ : rj_M) (a0 : Int32) : rj_M := (rj_bm (fX11_needPlace μ a0 12) (if (fX0_barOf μ a0) = (-1) then μ else (mX0_takeOut (mX11_beginChange μ) a0)) μ)
def qX11_leave (μ : rj_M) (a0 : Int32) : Prop := (rq_bx (fX11_needPlace μ a0 12) (if (fX0_barOf μ a0) = (-1) then True else (qX11_beginChange μ ∧ True)))
set_option maxHeartbeats 40000000 in
set_option maxRecDepth 100000 in
theorem sX11_leave {g : rj_G} {ω : rj_W} (hω : rj_ok ω) (μ : rj_M) (a0 : Int32)   (hq : qX11_leave μ a0) : rj_Sp g yX11_leave wsX11_leave (rj_rm 7 2) [.ref (ω.2.2 0), .int a0] ω μ (rj_D (rj_oi (fX11_leave μ a0)) ω (mX11_leave μ a0)) := by
  have hqa := hq
  unfold qX11_leave at hqa
  refine rj_of' (cc := cX11_leave) (nL := 3) (ret := (some .int)) (own := RX11) (l0 := [(0, .ref (ω.2.2 0)), (1, .int a0)]) rfl (by decide +kernel) rfl (Nat.le_of_ble_eq_true rfl) rfl ?_
  refine rj_iload_n 1 dX11_leave_0 rfl rfl ?_
  refine rj_bipush (v := 12) dX11_leave_1 rfl (by decide) ?_
  refine rj_cSx (rest := []) (sX11_needPlace (g := g) (ω := ω) hω μ a0 12   ) gX11_leave_X11_needPlace rfl hSX11_needPlace ⟨Nat.le_of_ble_eq_true rfl, Nat.le_of_ble_eq_true rfl⟩ dX11_leave_3 rfl rfl rfl (Nat.le_of_ble_eq_true rfl) rfl (Nat.le_of_ble_eq_true rfl) (fun E hE2 => ?_) (fun hx1 => ?_)
  · exact ⟨(by unfold fX11_leave; try (rw [hE2]); try (simp only [rj_bx]); try rfl), rfl, (by unfold mX11_leave; try (rw [hE2]); try (simp only [rj_bm]); try rfl)⟩
  · have hq1 := hqa; rw [hx1] at hq1; simp only [rq_bx] at hq1
    refine rj_aload_n 0 dX11_leave_6 rfl rfl ?_
    refine rj_getR (C0 := RX11) (T := TX11) (N := 6) (j := 0) (r := 1) dX11_leave_7 rfl vX11_leave_11 rfl (rj_lt hω (k := 0) rfl) (rj_sh hω ly_0) (by decide) kX11_leave_12 rfl ?_
    refine rj_getR (C0 := RX5) (T := TX5) (N := 8) (j := 4) (r := 21) dX11_leave_10 rfl vX11_leave_5 rfl (rj_lt hω (k := 1) rfl) (rj_sh hω ly_1) (by decide) kX11_leave_150 rfl ?_
    refine rj_iload_n 1 dX11_leave_13 rfl rfl ?_
    refine rj_cV (rest := []) (sX0_barOf (g := g) (ω := ω) hω μ a0   ) gX11_leave_X0_barOf (rj_lt hω (k := 21) rfl) (rj_sh hω ly_21) rfl rfl hVX0_barOf ⟨Nat.le_of_ble_eq_true rfl, Nat.le_of_ble_eq_true rfl⟩ dX11_leave_14 rfl rfl rfl (Nat.le_of_ble_eq_true rfl) rfl (Nat.le_of_ble_eq_true rfl) rfl ?_
    refine rj_istore_n (l' := [(2, .int (fX0_barOf μ a0)), (0, .ref (ω.2.2 0)), (1, .int a0)]) dX11_leave_17 rfl (rj_bl rfl) rfl ?_
    refine rj_iload_n 0 dX11_leave_18 rfl rfl ?_
    refine rj_iconst (v := (-1)) dX11_leave_19 rfl (by decide) ?_
    refine rj_icmp_ne dX11_leave_20 rfl rfl (fun h3 => ?_) (fun h3 => ?_)
    · have hq2 := hq1; rw [if_neg h3] at hq2
      refine rj_aload_n 1 dX11_leave_33 rfl rfl ?_
      refine rj_cV (rest := []) (sX11_beginChange (g := g) (ω := ω) hω μ   (hq2).1) gX11_leave_X11_beginChange (rj_lt hω (k := 0) rfl) (rj_sh hω ly_0) rfl rfl hVX11_beginChange ⟨Nat.le_of_ble_eq_true rfl, Nat.le_of_ble_eq_true rfl⟩ dX11_leave_34 rfl rfl rfl (Nat.le_of_ble_eq_true rfl) rfl (Nat.le_of_ble_eq_true rfl) rfl ?_
      refine rj_aload_n 1 dX11_leave_37 rfl rfl ?_
      refine rj_getR (C0 := RX11) (T := TX11) (N := 6) (j := 0) (r := 1) dX11_leave_38 rfl vX11_leave_11 rfl (rj_lt hω (k := 0) rfl) (rj_sh hω ly_0) (by decide) kX11_leave_12 rfl ?_
      refine rj_getR (C0 := RX5) (T := TX5) (N := 8) (j := 4) (r := 21) dX11_leave_41 rfl vX11_leave_5 rfl (rj_lt hω (k := 1) rfl) (rj_sh hω ly_1) (by decide) kX11_leave_150 rfl ?_
      refine rj_iload_n 2 dX11_leave_44 rfl rfl ?_
      refine rj_cV (rest := []) (sX0_takeOut (g := g) (ω := ω) hω (mX11_beginChange μ) a0   ) gX11_leave_X0_takeOut (rj_lt hω (k := 21) rfl) (rj_sh hω ly_21) rfl rfl hVX0_takeOut ⟨Nat.le_of_ble_eq_true rfl, Nat.le_of_ble_eq_true rfl⟩ dX11_leave_45 rfl rfl rfl (Nat.le_of_ble_eq_true rfl) rfl (Nat.le_of_ble_eq_true rfl) rfl ?_
      refine rj_iload_n 0 dX11_leave_48 rfl rfl ?_
      exact rj_iret dX11_leave_49 rfl (Nat.le_of_ble_eq_true rfl) (Nat.le_of_ble_eq_true rfl) ⟨(by unfold fX11_leave; try (rw [hx1]); try (simp only [rj_bx]); try (rw [if_neg h3]); try rfl), rfl, (by unfold mX11_leave; try (rw [hx1]); try (simp only [rj_bm]); try (rw [if_neg h3]); try rfl)⟩
    · have hq3 := hq1; rw [if_pos h3] at hq3
      exact rj_throwL (cls := "java/lang/IllegalStateException") (text := "the visitor is in no line") dX11_leave_23 rfl dX11_leave_26 rfl dX11_leave_27 rfl dX11_leave_29 rfl dX11_leave_32 (by decide +kernel) xkX11_leave_108 xiX11_leave_108 (by decide +kernel) xaX11_leave_112 xbX11_leave_112 (by decide) xgX11_leave_112 (Nat.le_of_ble_eq_true rfl) (Nat.le_of_ble_eq_true rfl) (Nat.le_of_ble_eq_true rfl) ⟨(by unfold fX11_leave; try (rw [hx1]); try (simp only [rj_bx]); try (rw [if_pos h3]); try rfl), rfl, (by unfold mX11_leave; try (rw [hx1]); try (simp only [rj_bm]); try (rw [if_pos h3]); try rfl)⟩
theorem hSX11_pass : yX11_pass.cls ≠ "java/lang/invoke/MethodHandle" ∧ yX11_pass.cls ≠ "java/lang/invoke/VarHandle" ∧ (parseMethodDescriptor yX11_pass.desc).map (fun d => d.parameters.length) = some 1 := by decide +kernel
theorem hVX11_pass : yX11_pass.cls = RX11 ∧ yX11_pass.cls ≠ "java/lang/invoke/MethodHandle" ∧ yX11_pass.cls ≠ "java/lang/invoke/VarHandle" ∧ (parseMethodDescriptor yX11_pass.desc).map (fun d => d.parameters.length) = some 1 := by decide +kernel
theorem vX11_pass_11 : ∀ w ∈ u_ws RX11 TX11 6, w ∈ wsX11_pass := by decide +kernel
theorem kX11_pass_12 : Cond.fieldLink RX11 12 (TX11 0).1 (TX11 0).2.1 (TX11 0).2.2.1 ∈ wsX11_pass := by decide +kernel
theorem vX11_pass_5 : ∀ w ∈ u_ws RX5 TX5 8, w ∈ wsX11_pass := by decide +kernel
theorem kX11_pass_150 : Cond.fieldLink RX11 150 (TX5 4).1 (TX5 4).2.1 (TX5 4).2.2.1 ∈ wsX11_pass := by decide +kernel
theorem vX11_pass_0 : ∀ w ∈ u_ws RX0 TX0 7, w ∈ wsX11_pass := by decide +kernel
theorem kX11_pass_175 : Cond.fieldLink RX11 175 (TX0 6).1 (TX0 6).2.1 (TX0 6).2.2.1 ∈ wsX11_pass := by decide +kernel
def bX11_pass_24 (μ : rj_M) (a0 : Int32) (j24 : Nat) (s24 : rj_M) : rj_M := (mX0_passMinute s24)
set_option maxHeartbeats 4000000 in
set_option maxRecDepth 100000 in
theorem lX11_pass_24 {g : rj_G} {ω : rj_W} (hω : rj_ok ω) (μ : rj_M) (a0 : Int32)     (hx1 : ((fX11_needRange μ a0 1 60) = none)) {F : rj_F} : ∀ (r j : Nat) (s : rj_M), r = a0.toInt.toNat - j → j < 2 ^ 31 → (rj_R g RX11 cX11_pass 4 (some .int) wsX11_pass [] (rj_rm 7 1) F 1 ω (rj_fo (bX11_pass_24 μ a0) r j s) [(0, .ref (ω.2.2 0)), (1, .int a0), (2, .int ((mX11_beginChange μ).1 21 6))] 45 []) → rj_R g RX11 cX11_pass 4 (some .int) wsX11_pass [] (rj_rm 7 1) F 1 ω s [(0, .ref (ω.2.2 0)), (1, .int a0), (2, .int ((mX11_beginChange μ).1 21 6)), (3, .int (nI j))] 24 [] := by
  intro r
  induction r with
  | zero =>
    intro j s hj hJ K
    have e0 : a0.toInt.toNat ≤ j := by omega
    have hge : a0 ≤ nI j := (rj_leN hJ).mpr e0
    refine rj_iload_n 3 dX11_pass_24 rfl rfl ?_
    refine rj_iload_n 1 dX11_pass_25 rfl rfl ?_
    refine rj_icmp_ge dX11_pass_26 rfl rfl (fun h4 => ?_) (fun h4 => ?_)
    · refine rj_sub (l' := [(0, .ref (ω.2.2 0)), (1, .int a0), (2, .int ((mX11_beginChange μ).1 21 6))]) [0, 1, 2] rfl ?_
      exact K
    · exact absurd hge h4
  | succ r ih =>
    intro j24 s24 hj hJ K
    have hl24 : j24 < a0.toInt.toNat := by omega
    have hg24 : ¬ a0 ≤ nI j24 := fun z => absurd ((rj_leN hJ).mp z) (by omega)
    have hN := rj_tN a0
    refine rj_iload_n 3 dX11_pass_24 rfl rfl ?_
    refine rj_iload_n 1 dX11_pass_25 rfl rfl ?_
    refine rj_icmp_ge dX11_pass_26 rfl rfl (fun h3 => ?_) (fun h3 => ?_)
    · exact absurd h3 hg24
    · refine rj_aload_n 0 dX11_pass_29 rfl rfl ?_
      refine rj_getR (C0 := RX11) (T := TX11) (N := 6) (j := 0) (r := 1) dX11_pass_30 rfl vX11_pass_11 rfl (rj_lt hω (k := 0) rfl) (rj_sh hω ly_0) (by decide) kX11_pass_12 rfl ?_
      refine rj_getR (C0 := RX5) (T := TX5) (N := 8) (j := 4) (r := 21) dX11_pass_33 rfl vX11_pass_5 rfl (rj_lt hω (k := 1) rfl) (rj_sh hω ly_1) (by decide) kX11_pass_150 rfl ?_
      refine rj_cV (rest := []) (sX0_passMinute (g := g) (ω := ω) hω s24   ) gX11_pass_X0_passMinute (rj_lt hω (k := 21) rfl) (rj_sh hω ly_21) rfl rfl hVX0_passMinute ⟨Nat.le_of_ble_eq_true rfl, Nat.le_of_ble_eq_true rfl⟩ dX11_pass_36 rfl rfl rfl (Nat.le_of_ble_eq_true rfl) rfl (Nat.le_of_ble_eq_true rfl) rfl ?_
      refine rj_iinc (v := nI (j24 + 1)) (l' := [(3, .int (nI (j24 + 1))), (0, .ref (ω.2.2 0)), (1, .int a0), (2, .int ((mX11_beginChange μ).1 21 6))]) 3 dX11_pass_39 rfl rfl (nI_succ j24).symm (rj_bl rfl) rfl ?_
      refine rj_goto dX11_pass_42 rfl ?_
      have e : bX11_pass_24 μ a0 j24 s24 = (mX0_passMinute s24) := by unfold bX11_pass_24; rfl
      exact rj_sub (l' := [(0, .ref (ω.2.2 0)), (1, .int a0), (2, .int ((mX11_beginChange μ).1 21 6)), (3, .int (nI (j24 + 1)))]) [1, 2, 3, 0] rfl (ih (j24 + 1) (mX0_passMinute s24) (by omega) (by omega) (by rw [rj_fo_s, e] at K; exact K))
def fX11_pass (μ : rj_M) (a0 : Int32) : Int32 ⊕ String := (rj_bx (fX11_needRange μ a0 1 60) (.inl (((rj_fo (bX11_pass_24 μ a0) (a0.toInt.toNat - 0) 0 (mX11_beginChange μ)).1 21 6) - ((mX11_beginChange μ).1 21 6))))
def mX11_pass (μ : rj_M) (a0 : Int32) : rj_M := (rj_bm (fX11_needRange μ a0 1 60) (rj_fo (bX11_pass_24 μ a0) (a0.toInt.toNat - 0) 0 (mX11_beginChange μ)) μ)
def qX11_pass (μ : rj_M) (a0 : Int32) : Prop := (rq_bx (fX11_needRange μ a0 1 60) (qX11_beginChange μ ∧ True))
set_option maxHeartbeats 40000000 in
set_option maxRecDepth 100000 in
theorem sX11_pass {g : rj_G} {ω : rj_W} (hω : rj_ok ω) (μ : rj_M) (a0 : Int32)   (hq : qX11_pass μ a0) : rj_Sp g yX11_pass wsX11_pass (rj_rm 7 1) [.ref (ω.2.2 0), .int a0] ω μ (rj_D (rj_oi (fX11_pass μ a0)) ω (mX11_pass μ a0)) := by
  have hqa := hq
  unfold qX11_pass at hqa
  refine rj_of' (cc := cX11_pass) (nL := 4) (ret := (some .int)) (own := RX11) (l0 := [(0, .ref (ω.2.2 0)), (1, .int a0)]) rfl (by decide +kernel) rfl (Nat.le_of_ble_eq_true rfl) rfl ?_
  refine rj_iload_n 1 dX11_pass_0 rfl rfl ?_
  refine rj_iconst (v := 1) dX11_pass_1 rfl (by decide) ?_
  refine rj_bipush (v := 60) dX11_pass_2 rfl (by decide) ?_
  refine rj_cSx (rest := []) (sX11_needRange (g := g) (ω := ω) hω μ a0 1 60   ) gX11_pass_X11_needRange rfl hSX11_needRange ⟨Nat.le_of_ble_eq_true rfl, Nat.le_of_ble_eq_true rfl⟩ dX11_pass_4 rfl rfl rfl (Nat.le_of_ble_eq_true rfl) rfl (Nat.le_of_ble_eq_true rfl) (fun E hE2 => ?_) (fun hx1 => ?_)
  · exact ⟨(by unfold fX11_pass; try (rw [hE2]); try (simp only [rj_bx]); try rfl), rfl, (by unfold mX11_pass; try (rw [hE2]); try (simp only [rj_bm]); try rfl)⟩
  · have hq1 := hqa; rw [hx1] at hq1; simp only [rq_bx] at hq1
    refine rj_aload_n 0 dX11_pass_7 rfl rfl ?_
    refine rj_cV (rest := []) (sX11_beginChange (g := g) (ω := ω) hω μ   (hq1).1) gX11_pass_X11_beginChange (rj_lt hω (k := 0) rfl) (rj_sh hω ly_0) rfl rfl hVX11_beginChange ⟨Nat.le_of_ble_eq_true rfl, Nat.le_of_ble_eq_true rfl⟩ dX11_pass_8 rfl rfl rfl (Nat.le_of_ble_eq_true rfl) rfl (Nat.le_of_ble_eq_true rfl) rfl ?_
    refine rj_aload_n 0 dX11_pass_11 rfl rfl ?_
    refine rj_getR (C0 := RX11) (T := TX11) (N := 6) (j := 0) (r := 1) dX11_pass_12 rfl vX11_pass_11 rfl (rj_lt hω (k := 0) rfl) (rj_sh hω ly_0) (by decide) kX11_pass_12 rfl ?_
    refine rj_getR (C0 := RX5) (T := TX5) (N := 8) (j := 4) (r := 21) dX11_pass_15 rfl vX11_pass_5 rfl (rj_lt hω (k := 1) rfl) (rj_sh hω ly_1) (by decide) kX11_pass_150 rfl ?_
    refine rj_getI (C0 := RX0) (T := TX0) (N := 7) (j := 6) dX11_pass_18 rfl vX11_pass_0 rfl (rj_lt hω (k := 21) rfl) (rj_sh hω ly_21) (by decide) kX11_pass_175 rfl ?_
    refine rj_istore_n (l' := [(2, .int ((mX11_beginChange μ).1 21 6)), (0, .ref (ω.2.2 0)), (1, .int a0)]) dX11_pass_21 rfl (rj_bl rfl) rfl ?_
    refine rj_iconst (v := 0) dX11_pass_22 rfl (by decide) ?_
    refine rj_istore_n (l' := [(3, .int 0), (2, .int ((mX11_beginChange μ).1 21 6)), (0, .ref (ω.2.2 0)), (1, .int a0)]) dX11_pass_23 rfl (rj_bl rfl) rfl ?_
    refine rj_sub (l' := [(0, .ref (ω.2.2 0)), (1, .int a0), (2, .int ((mX11_beginChange μ).1 21 6)), (3, .int (nI 0))]) [2, 3, 1, 0] rfl ?_
    refine lX11_pass_24 hω μ a0     hx1 (a0.toInt.toNat - 0) 0 (mX11_beginChange μ) rfl (rj_bl rfl) ?_
    refine rj_aload_n 0 dX11_pass_45 rfl rfl ?_
    refine rj_getR (C0 := RX11) (T := TX11) (N := 6) (j := 0) (r := 1) dX11_pass_46 rfl vX11_pass_11 rfl (rj_lt hω (k := 0) rfl) (rj_sh hω ly_0) (by decide) kX11_pass_12 rfl ?_
    refine rj_getR (C0 := RX5) (T := TX5) (N := 8) (j := 4) (r := 21) dX11_pass_49 rfl vX11_pass_5 rfl (rj_lt hω (k := 1) rfl) (rj_sh hω ly_1) (by decide) kX11_pass_150 rfl ?_
    refine rj_getI (C0 := RX0) (T := TX0) (N := 7) (j := 6) dX11_pass_52 rfl vX11_pass_0 rfl (rj_lt hω (k := 21) rfl) (rj_sh hω ly_21) (by decide) kX11_pass_175 rfl ?_
    refine rj_iload_n 2 dX11_pass_55 rfl rfl ?_
    refine rj_isub dX11_pass_56 rfl ?_
    exact rj_iret dX11_pass_57 rfl (Nat.le_of_ble_eq_true rfl) (Nat.le_of_ble_eq_true rfl) ⟨(by unfold fX11_pass; try (rw [hx1]); try (simp only [rj_bx]); try rfl), rfl, (by unfold mX11_pass; try (rw [hx1]); try (simp only [rj_bm]); try rfl)⟩
theorem hSX11_setNeed : yX11_setNeed.cls ≠ "java/lang/invoke/MethodHandle" ∧ yX11_setNeed.cls ≠ "java/lang/invoke/VarHandle" ∧ (parseMethodDescriptor yX11_setNeed.desc).map (fun d => d.parameters.length) = some 2 := by decide +kernel
theorem hVX11_setNeed : yX11_setNeed.cls = RX11 ∧ yX11_setNeed.cls ≠ "java/lang/invoke/MethodHandle" ∧ yX11_setNeed.cls ≠ "java/lang/invoke/VarHandle" ∧ (parseMethodDescriptor yX11_setNeed.desc).map (fun d => d.parameters.length) = some 2 := by decide +kernel
theorem vX11_setNeed_11 : ∀ w ∈ u_ws RX11 TX11 6, w ∈ wsX11_setNeed := by decide +kernel
theorem kX11_setNeed_12 : Cond.fieldLink RX11 12 (TX11 0).1 (TX11 0).2.1 (TX11 0).2.2.1 ∈ wsX11_setNeed := by decide +kernel
theorem vX11_setNeed_5 : ∀ w ∈ u_ws RX5 TX5 8, w ∈ wsX11_setNeed := by decide +kernel
theorem kX11_setNeed_181 : Cond.fieldLink RX11 181 (TX5 5).1 (TX5 5).2.1 (TX5 5).2.2.1 ∈ wsX11_setNeed := by decide +kernel
theorem vX11_setNeed_10 : ∀ w ∈ u_ws RX10 TX10 4, w ∈ wsX11_setNeed := by decide +kernel
theorem kX11_setNeed_185 : Cond.fieldLink RX11 185 (TX10 0).1 (TX10 0).2.1 (TX10 0).2.2.1 ∈ wsX11_setNeed := by decide +kernel
def fX11_setNeed (μ : rj_M) (a0 : Int32) (a1 : Int32) : Int32 ⊕ String := (rj_bx (fX11_needPlace μ a0 24) (rj_bx (fX11_needRange μ a1 0 9) (.inl (fX11_replace (mX11_beginChange μ) 27 24 a0 a1))))
def mX11_setNeed (μ : rj_M) (a0 : Int32) (a1 : Int32) : rj_M := (rj_bm (fX11_needPlace μ a0 24) (rj_bm (fX11_needRange μ a1 0 9) (mX11_replace (mX11_beginChange μ) 27 24 a0 a1) μ) μ)
def qX11_setNeed (μ : rj_M) (a0 : Int32) (a1 : Int32) : Prop := (rq_bx (fX11_needPlace μ a0 24) (rq_bx (fX11_needRange μ a1 0 9) (qX11_beginChange μ ∧ True)))
set_option maxHeartbeats 40000000 in
set_option maxRecDepth 100000 in
theorem sX11_setNeed {g : rj_G} {ω : rj_W} (hω : rj_ok ω) (μ : rj_M) (a0 : Int32) (a1 : Int32)   (hq : qX11_setNeed μ a0 a1) : rj_Sp g yX11_setNeed wsX11_setNeed (rj_rm 7 2) [.ref (ω.2.2 0), .int a0, .int a1] ω μ (rj_D (rj_oi (fX11_setNeed μ a0 a1)) ω (mX11_setNeed μ a0 a1)) := by
  have hqa := hq
  unfold qX11_setNeed at hqa
  refine rj_of' (cc := cX11_setNeed) (nL := 3) (ret := (some .int)) (own := RX11) (l0 := [(0, .ref (ω.2.2 0)), (1, .int a0), (2, .int a1)]) rfl (by decide +kernel) rfl (Nat.le_of_ble_eq_true rfl) rfl ?_
  refine rj_iload_n 1 dX11_setNeed_0 rfl rfl ?_
  refine rj_bipush (v := 24) dX11_setNeed_1 rfl (by decide) ?_
  refine rj_cSx (rest := []) (sX11_needPlace (g := g) (ω := ω) hω μ a0 24   ) gX11_setNeed_X11_needPlace rfl hSX11_needPlace ⟨Nat.le_of_ble_eq_true rfl, Nat.le_of_ble_eq_true rfl⟩ dX11_setNeed_3 rfl rfl rfl (Nat.le_of_ble_eq_true rfl) rfl (Nat.le_of_ble_eq_true rfl) (fun E hE2 => ?_) (fun hx1 => ?_)
  · exact ⟨(by unfold fX11_setNeed; try (rw [hE2]); try (simp only [rj_bx]); try rfl), rfl, (by unfold mX11_setNeed; try (rw [hE2]); try (simp only [rj_bm]); try rfl)⟩
  · have hq1 := hqa; rw [hx1] at hq1; simp only [rq_bx] at hq1
    refine rj_iload_n 2 dX11_setNeed_6 rfl rfl ?_
    refine rj_iconst (v := 0) dX11_setNeed_7 rfl (by decide) ?_
    refine rj_bipush (v := 9) dX11_setNeed_8 rfl (by decide) ?_
    refine rj_cSx (rest := []) (sX11_needRange (g := g) (ω := ω) hω μ a1 0 9   ) gX11_setNeed_X11_needRange rfl hSX11_needRange ⟨Nat.le_of_ble_eq_true rfl, Nat.le_of_ble_eq_true rfl⟩ dX11_setNeed_10 rfl rfl rfl (Nat.le_of_ble_eq_true rfl) rfl (Nat.le_of_ble_eq_true rfl) (fun E hE4 => ?_) (fun hx3 => ?_)
    · exact ⟨(by unfold fX11_setNeed; try (rw [hx1]); try (simp only [rj_bx]); try (rw [hE4]); try (simp only [rj_bx]); try rfl), rfl, (by unfold mX11_setNeed; try (rw [hx1]); try (simp only [rj_bm]); try (rw [hE4]); try (simp only [rj_bm]); try rfl)⟩
    · have hq2 := hq1; rw [hx3] at hq2; simp only [rq_bx] at hq2
      refine rj_aload_n 0 dX11_setNeed_13 rfl rfl ?_
      refine rj_cV (rest := []) (sX11_beginChange (g := g) (ω := ω) hω μ   (hq2).1) gX11_setNeed_X11_beginChange (rj_lt hω (k := 0) rfl) (rj_sh hω ly_0) rfl rfl hVX11_beginChange ⟨Nat.le_of_ble_eq_true rfl, Nat.le_of_ble_eq_true rfl⟩ dX11_setNeed_14 rfl rfl rfl (Nat.le_of_ble_eq_true rfl) rfl (Nat.le_of_ble_eq_true rfl) rfl ?_
      refine rj_aload_n 0 dX11_setNeed_17 rfl rfl ?_
      refine rj_getR (C0 := RX11) (T := TX11) (N := 6) (j := 0) (r := 1) dX11_setNeed_18 rfl vX11_setNeed_11 rfl (rj_lt hω (k := 0) rfl) (rj_sh hω ly_0) (by decide) kX11_setNeed_12 rfl ?_
      refine rj_getR (C0 := RX5) (T := TX5) (N := 8) (j := 5) (r := 26) dX11_setNeed_21 rfl vX11_setNeed_5 rfl (rj_lt hω (k := 1) rfl) (rj_sh hω ly_1) (by decide) kX11_setNeed_181 rfl ?_
      refine rj_getR (C0 := RX10) (T := TX10) (N := 4) (j := 0) (r := 27) dX11_setNeed_24 rfl vX11_setNeed_10 rfl (rj_lt hω (k := 26) rfl) (rj_sh hω ly_26) (by decide) kX11_setNeed_185 rfl ?_
      refine rj_iload_n 1 dX11_setNeed_27 rfl rfl ?_
      refine rj_iload_n 2 dX11_setNeed_28 rfl rfl ?_
      refine rj_cS (rest := []) (sX11_replace (g := g) (ω := ω) (mX11_beginChange μ) 27 24 a0 a1 (rj_lt hω (k := 27) rfl) (rj_sh hω ly_27) (rj_bl rfl)  ) gX11_setNeed_X11_replace rfl hSX11_replace ⟨Nat.le_of_ble_eq_true rfl, Nat.le_of_ble_eq_true rfl⟩ dX11_setNeed_29 rfl rfl rfl (Nat.le_of_ble_eq_true rfl) rfl (Nat.le_of_ble_eq_true rfl) rfl ?_
      exact rj_iret dX11_setNeed_32 rfl (Nat.le_of_ble_eq_true rfl) (Nat.le_of_ble_eq_true rfl) ⟨(by unfold fX11_setNeed; try (rw [hx1]); try (simp only [rj_bx]); try (rw [hx3]); try (simp only [rj_bx]); try rfl), rfl, (by unfold mX11_setNeed; try (rw [hx1]); try (simp only [rj_bm]); try (rw [hx3]); try (simp only [rj_bm]); try rfl)⟩
theorem hSX11_setShift : yX11_setShift.cls ≠ "java/lang/invoke/MethodHandle" ∧ yX11_setShift.cls ≠ "java/lang/invoke/VarHandle" ∧ (parseMethodDescriptor yX11_setShift.desc).map (fun d => d.parameters.length) = some 1 := by decide +kernel
theorem hVX11_setShift : yX11_setShift.cls = RX11 ∧ yX11_setShift.cls ≠ "java/lang/invoke/MethodHandle" ∧ yX11_setShift.cls ≠ "java/lang/invoke/VarHandle" ∧ (parseMethodDescriptor yX11_setShift.desc).map (fun d => d.parameters.length) = some 1 := by decide +kernel
theorem vX11_setShift_11 : ∀ w ∈ u_ws RX11 TX11 6, w ∈ wsX11_setShift := by decide +kernel
theorem kX11_setShift_12 : Cond.fieldLink RX11 12 (TX11 0).1 (TX11 0).2.1 (TX11 0).2.2.1 ∈ wsX11_setShift := by decide +kernel
theorem vX11_setShift_5 : ∀ w ∈ u_ws RX5 TX5 8, w ∈ wsX11_setShift := by decide +kernel
theorem kX11_setShift_181 : Cond.fieldLink RX11 181 (TX5 5).1 (TX5 5).2.1 (TX5 5).2.2.1 ∈ wsX11_setShift := by decide +kernel
theorem vX11_setShift_10 : ∀ w ∈ u_ws RX10 TX10 4, w ∈ wsX11_setShift := by decide +kernel
theorem kX11_setShift_190 : Cond.fieldLink RX11 190 (TX10 1).1 (TX10 1).2.1 (TX10 1).2.2.1 ∈ wsX11_setShift := by decide +kernel
def fX11_setShift (μ : rj_M) (a0 : Int32) : Int32 ⊕ String := (rj_bx (fX11_needRange μ a0 2 10) (.inl ((mX11_beginChange μ).1 26 1)))
def mX11_setShift (μ : rj_M) (a0 : Int32) : rj_M := (rj_bm (fX11_needRange μ a0 2 10) (rj_pi (mX11_beginChange μ) 26 1 a0) μ)
def qX11_setShift (μ : rj_M) (a0 : Int32) : Prop := (rq_bx (fX11_needRange μ a0 2 10) (qX11_beginChange μ ∧ True))
set_option maxHeartbeats 40000000 in
set_option maxRecDepth 100000 in
theorem sX11_setShift {g : rj_G} {ω : rj_W} (hω : rj_ok ω) (μ : rj_M) (a0 : Int32)   (hq : qX11_setShift μ a0) : rj_Sp g yX11_setShift wsX11_setShift (rj_rm 7 1) [.ref (ω.2.2 0), .int a0] ω μ (rj_D (rj_oi (fX11_setShift μ a0)) ω (mX11_setShift μ a0)) := by
  have hqa := hq
  unfold qX11_setShift at hqa
  refine rj_of' (cc := cX11_setShift) (nL := 3) (ret := (some .int)) (own := RX11) (l0 := [(0, .ref (ω.2.2 0)), (1, .int a0)]) rfl (by decide +kernel) rfl (Nat.le_of_ble_eq_true rfl) rfl ?_
  refine rj_iload_n 1 dX11_setShift_0 rfl rfl ?_
  refine rj_iconst (v := 2) dX11_setShift_1 rfl (by decide) ?_
  refine rj_bipush (v := 10) dX11_setShift_2 rfl (by decide) ?_
  refine rj_cSx (rest := []) (sX11_needRange (g := g) (ω := ω) hω μ a0 2 10   ) gX11_setShift_X11_needRange rfl hSX11_needRange ⟨Nat.le_of_ble_eq_true rfl, Nat.le_of_ble_eq_true rfl⟩ dX11_setShift_4 rfl rfl rfl (Nat.le_of_ble_eq_true rfl) rfl (Nat.le_of_ble_eq_true rfl) (fun E hE2 => ?_) (fun hx1 => ?_)
  · exact ⟨(by unfold fX11_setShift; try (rw [hE2]); try (simp only [rj_bx]); try rfl), rfl, (by unfold mX11_setShift; try (rw [hE2]); try (simp only [rj_bm]); try rfl)⟩
  · have hq1 := hqa; rw [hx1] at hq1; simp only [rq_bx] at hq1
    refine rj_aload_n 0 dX11_setShift_7 rfl rfl ?_
    refine rj_cV (rest := []) (sX11_beginChange (g := g) (ω := ω) hω μ   (hq1).1) gX11_setShift_X11_beginChange (rj_lt hω (k := 0) rfl) (rj_sh hω ly_0) rfl rfl hVX11_beginChange ⟨Nat.le_of_ble_eq_true rfl, Nat.le_of_ble_eq_true rfl⟩ dX11_setShift_8 rfl rfl rfl (Nat.le_of_ble_eq_true rfl) rfl (Nat.le_of_ble_eq_true rfl) rfl ?_
    refine rj_aload_n 0 dX11_setShift_11 rfl rfl ?_
    refine rj_getR (C0 := RX11) (T := TX11) (N := 6) (j := 0) (r := 1) dX11_setShift_12 rfl vX11_setShift_11 rfl (rj_lt hω (k := 0) rfl) (rj_sh hω ly_0) (by decide) kX11_setShift_12 rfl ?_
    refine rj_getR (C0 := RX5) (T := TX5) (N := 8) (j := 5) (r := 26) dX11_setShift_15 rfl vX11_setShift_5 rfl (rj_lt hω (k := 1) rfl) (rj_sh hω ly_1) (by decide) kX11_setShift_181 rfl ?_
    refine rj_getI (C0 := RX10) (T := TX10) (N := 4) (j := 1) dX11_setShift_18 rfl vX11_setShift_10 rfl (rj_lt hω (k := 26) rfl) (rj_sh hω ly_26) (by decide) kX11_setShift_190 rfl ?_
    refine rj_istore_n (l' := [(2, .int ((mX11_beginChange μ).1 26 1)), (0, .ref (ω.2.2 0)), (1, .int a0)]) dX11_setShift_21 rfl (rj_bl rfl) rfl ?_
    refine rj_aload_n 1 dX11_setShift_22 rfl rfl ?_
    refine rj_getR (C0 := RX11) (T := TX11) (N := 6) (j := 0) (r := 1) dX11_setShift_23 rfl vX11_setShift_11 rfl (rj_lt hω (k := 0) rfl) (rj_sh hω ly_0) (by decide) kX11_setShift_12 rfl ?_
    refine rj_getR (C0 := RX5) (T := TX5) (N := 8) (j := 5) (r := 26) dX11_setShift_26 rfl vX11_setShift_5 rfl (rj_lt hω (k := 1) rfl) (rj_sh hω ly_1) (by decide) kX11_setShift_181 rfl ?_
    refine rj_iload_n 2 dX11_setShift_29 rfl rfl ?_
    refine rj_putI (C0 := RX10) (T := TX10) (N := 4) (j := 1) dX11_setShift_30 rfl vX11_setShift_10 rfl (rj_lt hω (k := 26) rfl) (rj_sh hω ly_26) (by decide) kX11_setShift_190 tyX10 tyX10_ok nmX10 rfl rfl rfl rfl ?_
    refine rj_iload_n 0 dX11_setShift_33 rfl rfl ?_
    exact rj_iret dX11_setShift_34 rfl (Nat.le_of_ble_eq_true rfl) (Nat.le_of_ble_eq_true rfl) ⟨(by unfold fX11_setShift; try (rw [hx1]); try (simp only [rj_bx]); try rfl), rfl, (by unfold mX11_setShift; try (rw [hx1]); try (simp only [rj_bm]); try rfl)⟩
theorem hSX11_setLoad : yX11_setLoad.cls ≠ "java/lang/invoke/MethodHandle" ∧ yX11_setLoad.cls ≠ "java/lang/invoke/VarHandle" ∧ (parseMethodDescriptor yX11_setLoad.desc).map (fun d => d.parameters.length) = some 3 := by decide +kernel
theorem hVX11_setLoad : yX11_setLoad.cls = RX11 ∧ yX11_setLoad.cls ≠ "java/lang/invoke/MethodHandle" ∧ yX11_setLoad.cls ≠ "java/lang/invoke/VarHandle" ∧ (parseMethodDescriptor yX11_setLoad.desc).map (fun d => d.parameters.length) = some 3 := by decide +kernel
theorem vX11_setLoad_11 : ∀ w ∈ u_ws RX11 TX11 6, w ∈ wsX11_setLoad := by decide +kernel
theorem kX11_setLoad_12 : Cond.fieldLink RX11 12 (TX11 0).1 (TX11 0).2.1 (TX11 0).2.2.1 ∈ wsX11_setLoad := by decide +kernel
theorem vX11_setLoad_5 : ∀ w ∈ u_ws RX5 TX5 8, w ∈ wsX11_setLoad := by decide +kernel
theorem kX11_setLoad_193 : Cond.fieldLink RX11 193 (TX5 6).1 (TX5 6).2.1 (TX5 6).2.2.1 ∈ wsX11_setLoad := by decide +kernel
theorem vX11_setLoad_6 : ∀ w ∈ u_ws RX6 TX6 8, w ∈ wsX11_setLoad := by decide +kernel
theorem kX11_setLoad_197 : Cond.fieldLink RX11 197 (TX6 0).1 (TX6 0).2.1 (TX6 0).2.2.1 ∈ wsX11_setLoad := by decide +kernel
def bX11_setLoad_48 (μ : rj_M) (a0 : Int32) (a1 : Int32) (a2 : Int32) (s48 : Int32 × rj_M) : (Int32 × rj_M) ⊕ (Int32 × rj_M) := (if a1 < s48.1 then .inr (s48.1, s48.2) else .inl (s48.1 + 1, (rj_pi s48.2 31 s48.1.toNatClampNeg a2)))
def qX11_setLoad_48 (μ : rj_M) (a0 : Int32) (a1 : Int32) (a2 : Int32) (s48 : Int32 × rj_M) : Prop := (if a1 < s48.1 then True else (vp_in s48.1 24 ∧ True))
set_option maxHeartbeats 4000000 in
set_option maxRecDepth 100000 in
theorem lX11_setLoad_48 {g : rj_G} {ω : rj_W} (hω : rj_ok ω) (μ : rj_M) (a0 : Int32) (a1 : Int32) (a2 : Int32)    (hx1 : ((fX11_needPlace μ a0 24) = none)) (hx3 : ((fX11_needPlace μ a1 24) = none)) (hx5 : ((fX11_needRange μ a1 a0 23) = none)) (hx7 : ((fX11_needRange μ a2 0 500) = none)) {F : rj_F} : ∀ (r : Nat) (s : Int32 × rj_M), rq_we (qX11_setLoad_48 μ a0 a1 a2) (bX11_setLoad_48 μ a0 a1 a2) r s → (rj_R g RX11 cX11_setLoad 6 (some .int) wsX11_setLoad [] (rj_rm 7 4) F 4 ω ((rj_we (bX11_setLoad_48 μ a0 a1 a2) r s).2) [(0, .ref (ω.2.2 0)), (1, .int a0), (2, .int a1), (3, .int a2), (4, .int ((mX11_beginChange μ).1 31 a0.toNatClampNeg)), (5, .int ((rj_we (bX11_setLoad_48 μ a0 a1 a2) r s).1))] 74 []) → rj_R g RX11 cX11_setLoad 6 (some .int) wsX11_setLoad [] (rj_rm 7 4) F 4 ω s.2 [(0, .ref (ω.2.2 0)), (1, .int a0), (2, .int a1), (3, .int a2), (4, .int ((mX11_beginChange μ).1 31 a0.toNatClampNeg)), (5, .int s.1)] 48 [] := by
  intro r
  induction r with
  | zero =>
    intro s hq0 K
    exact hq0.elim
  | succ r ih =>
    intro s48 hq0 K
    rw [rq_we_s] at hq0
    have hqa := hq0.1
    have hqn := hq0.2
    unfold qX11_setLoad_48 at hqa
    refine rj_iload 5 dX11_setLoad_48 rfl rfl ?_
    refine rj_iload_n 2 dX11_setLoad_50 rfl rfl ?_
    refine rj_icmp_gt dX11_setLoad_51 rfl rfl (fun h9 => ?_) (fun h9 => ?_)
    · have hq5 := hqa; rw [if_pos h9] at hq5
      have e : bX11_setLoad_48 μ a0 a1 a2 s48 = .inr (s48.1, s48.2) := by unfold bX11_setLoad_48; rw [if_pos h9]; try rfl
      exact rj_sub (l' := [(0, .ref (ω.2.2 0)), (1, .int a0), (2, .int a1), (3, .int a2), (4, .int ((mX11_beginChange μ).1 31 a0.toNatClampNeg)), (5, .int s48.1)]) [0, 1, 2, 3, 4, 5] rfl (by rw [rj_we_r e] at K; exact K)
    · have hq6 := hqa; rw [if_neg h9] at hq6
      refine rj_aload_n 0 dX11_setLoad_54 rfl rfl ?_
      refine rj_getR (C0 := RX11) (T := TX11) (N := 6) (j := 0) (r := 1) dX11_setLoad_55 rfl vX11_setLoad_11 rfl (rj_lt hω (k := 0) rfl) (rj_sh hω ly_0) (by decide) kX11_setLoad_12 rfl ?_
      refine rj_getR (C0 := RX5) (T := TX5) (N := 8) (j := 6) (r := 30) dX11_setLoad_58 rfl vX11_setLoad_5 rfl (rj_lt hω (k := 1) rfl) (rj_sh hω ly_1) (by decide) kX11_setLoad_193 rfl ?_
      refine rj_getR (C0 := RX6) (T := TX6) (N := 8) (j := 0) (r := 31) dX11_setLoad_61 rfl vX11_setLoad_6 rfl (rj_lt hω (k := 30) rfl) (rj_sh hω ly_30) (by decide) kX11_setLoad_197 rfl ?_
      refine rj_iload 5 dX11_setLoad_64 rfl rfl ?_
      refine rj_iload_n 3 dX11_setLoad_66 rfl rfl ?_
      refine rj_iast dX11_setLoad_67 rfl (rj_lt hω (k := 31) rfl) (rj_sh hω ly_31) (hq6).1 ?_
      refine rj_iinc (v := s48.1 + 1) (l' := [(5, .int (s48.1 + 1)), (0, .ref (ω.2.2 0)), (1, .int a0), (2, .int a1), (3, .int a2), (4, .int ((mX11_beginChange μ).1 31 a0.toNatClampNeg))]) 5 dX11_setLoad_68 rfl rfl rfl (rj_bl rfl) rfl ?_
      refine rj_goto dX11_setLoad_71 rfl ?_
      have e : bX11_setLoad_48 μ a0 a1 a2 s48 = .inl (s48.1 + 1, (rj_pi s48.2 31 s48.1.toNatClampNeg a2)) := by unfold bX11_setLoad_48; rw [if_neg h9]; try rfl
      exact rj_sub (l' := [(0, .ref (ω.2.2 0)), (1, .int a0), (2, .int a1), (3, .int a2), (4, .int ((mX11_beginChange μ).1 31 a0.toNatClampNeg)), (5, .int (s48.1 + 1))]) [1, 2, 3, 4, 5, 0] rfl (ih (s48.1 + 1, (rj_pi s48.2 31 s48.1.toNatClampNeg a2)) (by have hz := hqn; rw [e] at hz; exact hz) (by rw [rj_we_l e] at K; exact K))
set_option maxHeartbeats 4000000 in
theorem lX11_setLoad_48u {g : rj_G} {ω : rj_W} (hω : rj_ok ω) (μ : rj_M) (a0 : Int32) (a1 : Int32) (a2 : Int32)    (hx1 : ((fX11_needPlace μ a0 24) = none)) (hx3 : ((fX11_needPlace μ a1 24) = none)) (hx5 : ((fX11_needRange μ a1 a0 23) = none)) (hx7 : ((fX11_needRange μ a2 0 500) = none)) {F : rj_F} : ∀ (r : Nat) (c0 : Int32) (c1 : rj_M), rq_we (qX11_setLoad_48 μ a0 a1 a2) (bX11_setLoad_48 μ a0 a1 a2) r (c0, c1) → (rj_R g RX11 cX11_setLoad 6 (some .int) wsX11_setLoad [] (rj_rm 7 4) F 4 ω ((rj_we (bX11_setLoad_48 μ a0 a1 a2) r (c0, c1)).2) [(0, .ref (ω.2.2 0)), (1, .int a0), (2, .int a1), (3, .int a2), (4, .int ((mX11_beginChange μ).1 31 a0.toNatClampNeg)), (5, .int ((rj_we (bX11_setLoad_48 μ a0 a1 a2) r (c0, c1)).1))] 74 []) → rj_R g RX11 cX11_setLoad 6 (some .int) wsX11_setLoad [] (rj_rm 7 4) F 4 ω c1 [(0, .ref (ω.2.2 0)), (1, .int a0), (2, .int a1), (3, .int a2), (4, .int ((mX11_beginChange μ).1 31 a0.toNatClampNeg)), (5, .int c0)] 48 [] := fun r c0 c1 => lX11_setLoad_48 hω μ a0 a1 a2    hx1 hx3 hx5 hx7 r (c0, c1)
def fX11_setLoad (μ : rj_M) (a0 : Int32) (a1 : Int32) (a2 : Int32) : Int32 ⊕ String := (rj_bx (fX11_needPlace μ a0 24) (rj_bx (fX11_needPlace μ a1 24) (rj_bx (fX11_needRange μ a1 a0 23) (rj_bx (fX11_needRange μ a2 0 500) (.inl ((mX11_beginChange μ).1 31 a0.toNatClampNeg))))))
def mX11_setLoad (μ : rj_M) (a0 : Int32) (a1 : Int32) (a2 : Int32) : rj_M := (rj_bm (fX11_needPlace μ a0 24) (rj_bm (fX11_needPlace μ a1 24) (rj_bm (fX11_needRange μ a1 a0 23) (rj_bm (fX11_needRange μ a2 0 500) (rj_we (bX11_setLoad_48 μ a0 a1 a2) 25 (a0, (mX11_beginChange μ))).2 μ) μ) μ) μ)
def qX11_setLoad (μ : rj_M) (a0 : Int32) (a1 : Int32) (a2 : Int32) : Prop := (rq_bx (fX11_needPlace μ a0 24) (rq_bx (fX11_needPlace μ a1 24) (rq_bx (fX11_needRange μ a1 a0 23) (rq_bx (fX11_needRange μ a2 0 500) (qX11_beginChange μ ∧ (rq_we (qX11_setLoad_48 μ a0 a1 a2) (bX11_setLoad_48 μ a0 a1 a2) 25 (a0, (mX11_beginChange μ)) ∧ True))))))
set_option maxHeartbeats 40000000 in
set_option maxRecDepth 100000 in
theorem sX11_setLoad {g : rj_G} {ω : rj_W} (hω : rj_ok ω) (μ : rj_M) (a0 : Int32) (a1 : Int32) (a2 : Int32)   (hq : qX11_setLoad μ a0 a1 a2) : rj_Sp g yX11_setLoad wsX11_setLoad (rj_rm 7 4) [.ref (ω.2.2 0), .int a0, .int a1, .int a2] ω μ (rj_D (rj_oi (fX11_setLoad μ a0 a1 a2)) ω (mX11_setLoad μ a0 a1 a2)) := by
  have hqa := hq
  unfold qX11_setLoad at hqa
  refine rj_of' (cc := cX11_setLoad) (nL := 6) (ret := (some .int)) (own := RX11) (l0 := [(0, .ref (ω.2.2 0)), (1, .int a0), (2, .int a1), (3, .int a2)]) rfl (by decide +kernel) rfl (Nat.le_of_ble_eq_true rfl) rfl ?_
  refine rj_iload_n 1 dX11_setLoad_0 rfl rfl ?_
  refine rj_bipush (v := 24) dX11_setLoad_1 rfl (by decide) ?_
  refine rj_cSx (rest := []) (sX11_needPlace (g := g) (ω := ω) hω μ a0 24   ) gX11_setLoad_X11_needPlace rfl hSX11_needPlace ⟨Nat.le_of_ble_eq_true rfl, Nat.le_of_ble_eq_true rfl⟩ dX11_setLoad_3 rfl rfl rfl (Nat.le_of_ble_eq_true rfl) rfl (Nat.le_of_ble_eq_true rfl) (fun E hE2 => ?_) (fun hx1 => ?_)
  · exact ⟨(by unfold fX11_setLoad; try (rw [hE2]); try (simp only [rj_bx]); try rfl), rfl, (by unfold mX11_setLoad; try (rw [hE2]); try (simp only [rj_bm]); try rfl)⟩
  · have hq1 := hqa; rw [hx1] at hq1; simp only [rq_bx] at hq1
    refine rj_iload_n 2 dX11_setLoad_6 rfl rfl ?_
    refine rj_bipush (v := 24) dX11_setLoad_7 rfl (by decide) ?_
    refine rj_cSx (rest := []) (sX11_needPlace (g := g) (ω := ω) hω μ a1 24   ) gX11_setLoad_X11_needPlace rfl hSX11_needPlace ⟨Nat.le_of_ble_eq_true rfl, Nat.le_of_ble_eq_true rfl⟩ dX11_setLoad_9 rfl rfl rfl (Nat.le_of_ble_eq_true rfl) rfl (Nat.le_of_ble_eq_true rfl) (fun E hE4 => ?_) (fun hx3 => ?_)
    · exact ⟨(by unfold fX11_setLoad; try (rw [hx1]); try (simp only [rj_bx]); try (rw [hE4]); try (simp only [rj_bx]); try rfl), rfl, (by unfold mX11_setLoad; try (rw [hx1]); try (simp only [rj_bm]); try (rw [hE4]); try (simp only [rj_bm]); try rfl)⟩
    · have hq2 := hq1; rw [hx3] at hq2; simp only [rq_bx] at hq2
      refine rj_iload_n 2 dX11_setLoad_12 rfl rfl ?_
      refine rj_iload_n 1 dX11_setLoad_13 rfl rfl ?_
      refine rj_bipush (v := 23) dX11_setLoad_14 rfl (by decide) ?_
      refine rj_cSx (rest := []) (sX11_needRange (g := g) (ω := ω) hω μ a1 a0 23   ) gX11_setLoad_X11_needRange rfl hSX11_needRange ⟨Nat.le_of_ble_eq_true rfl, Nat.le_of_ble_eq_true rfl⟩ dX11_setLoad_16 rfl rfl rfl (Nat.le_of_ble_eq_true rfl) rfl (Nat.le_of_ble_eq_true rfl) (fun E hE6 => ?_) (fun hx5 => ?_)
      · exact ⟨(by unfold fX11_setLoad; try (rw [hx1]); try (simp only [rj_bx]); try (rw [hx3]); try (simp only [rj_bx]); try (rw [hE6]); try (simp only [rj_bx]); try rfl), rfl, (by unfold mX11_setLoad; try (rw [hx1]); try (simp only [rj_bm]); try (rw [hx3]); try (simp only [rj_bm]); try (rw [hE6]); try (simp only [rj_bm]); try rfl)⟩
      · have hq3 := hq2; rw [hx5] at hq3; simp only [rq_bx] at hq3
        refine rj_iload_n 3 dX11_setLoad_19 rfl rfl ?_
        refine rj_iconst (v := 0) dX11_setLoad_20 rfl (by decide) ?_
        refine rj_sipush (v := 500) dX11_setLoad_21 rfl (by decide) ?_
        refine rj_cSx (rest := []) (sX11_needRange (g := g) (ω := ω) hω μ a2 0 500   ) gX11_setLoad_X11_needRange rfl hSX11_needRange ⟨Nat.le_of_ble_eq_true rfl, Nat.le_of_ble_eq_true rfl⟩ dX11_setLoad_24 rfl rfl rfl (Nat.le_of_ble_eq_true rfl) rfl (Nat.le_of_ble_eq_true rfl) (fun E hE8 => ?_) (fun hx7 => ?_)
        · exact ⟨(by unfold fX11_setLoad; try (rw [hx1]); try (simp only [rj_bx]); try (rw [hx3]); try (simp only [rj_bx]); try (rw [hx5]); try (simp only [rj_bx]); try (rw [hE8]); try (simp only [rj_bx]); try rfl), rfl, (by unfold mX11_setLoad; try (rw [hx1]); try (simp only [rj_bm]); try (rw [hx3]); try (simp only [rj_bm]); try (rw [hx5]); try (simp only [rj_bm]); try (rw [hE8]); try (simp only [rj_bm]); try rfl)⟩
        · have hq4 := hq3; rw [hx7] at hq4; simp only [rq_bx] at hq4
          refine rj_aload_n 0 dX11_setLoad_27 rfl rfl ?_
          refine rj_cV (rest := []) (sX11_beginChange (g := g) (ω := ω) hω μ   (hq4).1) gX11_setLoad_X11_beginChange (rj_lt hω (k := 0) rfl) (rj_sh hω ly_0) rfl rfl hVX11_beginChange ⟨Nat.le_of_ble_eq_true rfl, Nat.le_of_ble_eq_true rfl⟩ dX11_setLoad_28 rfl rfl rfl (Nat.le_of_ble_eq_true rfl) rfl (Nat.le_of_ble_eq_true rfl) rfl ?_
          refine rj_aload_n 0 dX11_setLoad_31 rfl rfl ?_
          refine rj_getR (C0 := RX11) (T := TX11) (N := 6) (j := 0) (r := 1) dX11_setLoad_32 rfl vX11_setLoad_11 rfl (rj_lt hω (k := 0) rfl) (rj_sh hω ly_0) (by decide) kX11_setLoad_12 rfl ?_
          refine rj_getR (C0 := RX5) (T := TX5) (N := 8) (j := 6) (r := 30) dX11_setLoad_35 rfl vX11_setLoad_5 rfl (rj_lt hω (k := 1) rfl) (rj_sh hω ly_1) (by decide) kX11_setLoad_193 rfl ?_
          refine rj_getR (C0 := RX6) (T := TX6) (N := 8) (j := 0) (r := 31) dX11_setLoad_38 rfl vX11_setLoad_6 rfl (rj_lt hω (k := 30) rfl) (rj_sh hω ly_30) (by decide) kX11_setLoad_197 rfl ?_
          refine rj_iload_n 1 dX11_setLoad_41 rfl rfl ?_
          refine rj_iald dX11_setLoad_42 rfl (rj_lt hω (k := 31) rfl) (rj_sh hω ly_31) (rj_placein hx1 rfl) ?_
          refine rj_istore (l' := [(4, .int ((mX11_beginChange μ).1 31 a0.toNatClampNeg)), (0, .ref (ω.2.2 0)), (1, .int a0), (2, .int a1), (3, .int a2)]) dX11_setLoad_43 rfl (rj_bl rfl) rfl ?_
          refine rj_iload_n 2 dX11_setLoad_45 rfl rfl ?_
          refine rj_istore (l' := [(5, .int a0), (4, .int ((mX11_beginChange μ).1 31 a0.toNatClampNeg)), (0, .ref (ω.2.2 0)), (1, .int a0), (2, .int a1), (3, .int a2)]) dX11_setLoad_46 rfl (rj_bl rfl) rfl ?_
          refine rj_sub (l' := [(0, .ref (ω.2.2 0)), (1, .int a0), (2, .int a1), (3, .int a2), (4, .int ((mX11_beginChange μ).1 31 a0.toNatClampNeg)), (5, .int a0)]) [2, 3, 4, 5, 1, 0] rfl ?_
          refine lX11_setLoad_48u hω μ a0 a1 a2    hx1 hx3 hx5 hx7 25 a0 (mX11_beginChange μ) ((hq4).2).1 ?_
          refine rj_iload 4 dX11_setLoad_74 rfl rfl ?_
          exact rj_iret dX11_setLoad_76 rfl (Nat.le_of_ble_eq_true rfl) (Nat.le_of_ble_eq_true rfl) ⟨(by unfold fX11_setLoad; try (rw [hx1]); try (simp only [rj_bx]); try (rw [hx3]); try (simp only [rj_bx]); try (rw [hx5]); try (simp only [rj_bx]); try (rw [hx7]); try (simp only [rj_bx]); try rfl), rfl, (by unfold mX11_setLoad; try (rw [hx1]); try (simp only [rj_bm]); try (rw [hx3]); try (simp only [rj_bm]); try (rw [hx5]); try (simp only [rj_bm]); try (rw [hx7]); try (simp only [rj_bm]); try rfl)⟩
theorem hSX11_setGenerator : yX11_setGenerator.cls ≠ "java/lang/invoke/MethodHandle" ∧ yX11_setGenerator.cls ≠ "java/lang/invoke/VarHandle" ∧ (parseMethodDescriptor yX11_setGenerator.desc).map (fun d => d.parameters.length) = some 4 := by decide +kernel
theorem hVX11_setGenerator : yX11_setGenerator.cls = RX11 ∧ yX11_setGenerator.cls ≠ "java/lang/invoke/MethodHandle" ∧ yX11_setGenerator.cls ≠ "java/lang/invoke/VarHandle" ∧ (parseMethodDescriptor yX11_setGenerator.desc).map (fun d => d.parameters.length) = some 4 := by decide +kernel
theorem vX11_setGenerator_11 : ∀ w ∈ u_ws RX11 TX11 6, w ∈ wsX11_setGenerator := by decide +kernel
theorem kX11_setGenerator_12 : Cond.fieldLink RX11 12 (TX11 0).1 (TX11 0).2.1 (TX11 0).2.2.1 ∈ wsX11_setGenerator := by decide +kernel
theorem vX11_setGenerator_5 : ∀ w ∈ u_ws RX5 TX5 8, w ∈ wsX11_setGenerator := by decide +kernel
theorem kX11_setGenerator_193 : Cond.fieldLink RX11 193 (TX5 6).1 (TX5 6).2.1 (TX5 6).2.2.1 ∈ wsX11_setGenerator := by decide +kernel
theorem vX11_setGenerator_6 : ∀ w ∈ u_ws RX6 TX6 8, w ∈ wsX11_setGenerator := by decide +kernel
theorem kX11_setGenerator_202 : Cond.fieldLink RX11 202 (TX6 2).1 (TX6 2).2.1 (TX6 2).2.2.1 ∈ wsX11_setGenerator := by decide +kernel
theorem kX11_setGenerator_205 : Cond.fieldLink RX11 205 (TX6 3).1 (TX6 3).2.1 (TX6 3).2.2.1 ∈ wsX11_setGenerator := by decide +kernel
theorem kX11_setGenerator_208 : Cond.fieldLink RX11 208 (TX6 1).1 (TX6 1).2.1 (TX6 1).2.2.1 ∈ wsX11_setGenerator := by decide +kernel
def fX11_setGenerator (μ : rj_M) (a0 : Int32) (a1 : Int32) (a2 : Int32) (a3 : Int32) : Int32 ⊕ String := (rj_bx (fX11_needPlace μ a0 4) (rj_bx (fX11_needRange μ a1 0 200) (rj_bx (fX11_needRange μ a2 0 100) (rj_bx (fX11_needRange μ a3 0 100) (.inl (fX11_replace (mX11_replace (mX11_replace (mX11_beginChange μ) 33 4 a0 a2) 34 4 a0 a3) 32 4 a0 a1))))))
def mX11_setGenerator (μ : rj_M) (a0 : Int32) (a1 : Int32) (a2 : Int32) (a3 : Int32) : rj_M := (rj_bm (fX11_needPlace μ a0 4) (rj_bm (fX11_needRange μ a1 0 200) (rj_bm (fX11_needRange μ a2 0 100) (rj_bm (fX11_needRange μ a3 0 100) (mX11_replace (mX11_replace (mX11_replace (mX11_beginChange μ) 33 4 a0 a2) 34 4 a0 a3) 32 4 a0 a1) μ) μ) μ) μ)
def qX11_setGenerator (μ : rj_M) (a0 : Int32) (a1 : Int32) (a2 : Int32) (a3 : Int32) : Prop := (rq_bx (fX11_needPlace μ a0 4) (rq_bx (fX11_needRange μ a1 0 200) (rq_bx (fX11_needRange μ a2 0 100) (rq_bx (fX11_needRange μ a3 0 100) (qX11_beginChange μ ∧ True)))))
set_option maxHeartbeats 40000000 in
set_option maxRecDepth 100000 in
theorem sX11_setGenerator {g : rj_G} {ω : rj_W} (hω : rj_ok ω) (μ : rj_M) (a0 : Int32) (a1 : Int32) (a2 : Int32) (a3 : Int32)   (hq : qX11_setGenerator μ a0 a1 a2 a3) : rj_Sp g yX11_setGenerator wsX11_setGenerator (rj_rm 7 4) [.ref (ω.2.2 0), .int a0, .int a1, .int a2, .int a3] ω μ (rj_D (rj_oi (fX11_setGenerator μ a0 a1 a2 a3)) ω (mX11_setGenerator μ a0 a1 a2 a3)) := by
  have hqa := hq
  unfold qX11_setGenerator at hqa
  refine rj_of' (cc := cX11_setGenerator) (nL := 5) (ret := (some .int)) (own := RX11) (l0 := [(0, .ref (ω.2.2 0)), (1, .int a0), (2, .int a1), (3, .int a2), (4, .int a3)]) rfl (by decide +kernel) rfl (Nat.le_of_ble_eq_true rfl) rfl ?_
  refine rj_iload_n 1 dX11_setGenerator_0 rfl rfl ?_
  refine rj_iconst (v := 4) dX11_setGenerator_1 rfl (by decide) ?_
  refine rj_cSx (rest := []) (sX11_needPlace (g := g) (ω := ω) hω μ a0 4   ) gX11_setGenerator_X11_needPlace rfl hSX11_needPlace ⟨Nat.le_of_ble_eq_true rfl, Nat.le_of_ble_eq_true rfl⟩ dX11_setGenerator_2 rfl rfl rfl (Nat.le_of_ble_eq_true rfl) rfl (Nat.le_of_ble_eq_true rfl) (fun E hE2 => ?_) (fun hx1 => ?_)
  · exact ⟨(by unfold fX11_setGenerator; try (rw [hE2]); try (simp only [rj_bx]); try rfl), rfl, (by unfold mX11_setGenerator; try (rw [hE2]); try (simp only [rj_bm]); try rfl)⟩
  · have hq1 := hqa; rw [hx1] at hq1; simp only [rq_bx] at hq1
    refine rj_iload_n 2 dX11_setGenerator_5 rfl rfl ?_
    refine rj_iconst (v := 0) dX11_setGenerator_6 rfl (by decide) ?_
    refine rj_sipush (v := 200) dX11_setGenerator_7 rfl (by decide) ?_
    refine rj_cSx (rest := []) (sX11_needRange (g := g) (ω := ω) hω μ a1 0 200   ) gX11_setGenerator_X11_needRange rfl hSX11_needRange ⟨Nat.le_of_ble_eq_true rfl, Nat.le_of_ble_eq_true rfl⟩ dX11_setGenerator_10 rfl rfl rfl (Nat.le_of_ble_eq_true rfl) rfl (Nat.le_of_ble_eq_true rfl) (fun E hE4 => ?_) (fun hx3 => ?_)
    · exact ⟨(by unfold fX11_setGenerator; try (rw [hx1]); try (simp only [rj_bx]); try (rw [hE4]); try (simp only [rj_bx]); try rfl), rfl, (by unfold mX11_setGenerator; try (rw [hx1]); try (simp only [rj_bm]); try (rw [hE4]); try (simp only [rj_bm]); try rfl)⟩
    · have hq2 := hq1; rw [hx3] at hq2; simp only [rq_bx] at hq2
      refine rj_iload_n 3 dX11_setGenerator_13 rfl rfl ?_
      refine rj_iconst (v := 0) dX11_setGenerator_14 rfl (by decide) ?_
      refine rj_bipush (v := 100) dX11_setGenerator_15 rfl (by decide) ?_
      refine rj_cSx (rest := []) (sX11_needRange (g := g) (ω := ω) hω μ a2 0 100   ) gX11_setGenerator_X11_needRange rfl hSX11_needRange ⟨Nat.le_of_ble_eq_true rfl, Nat.le_of_ble_eq_true rfl⟩ dX11_setGenerator_17 rfl rfl rfl (Nat.le_of_ble_eq_true rfl) rfl (Nat.le_of_ble_eq_true rfl) (fun E hE6 => ?_) (fun hx5 => ?_)
      · exact ⟨(by unfold fX11_setGenerator; try (rw [hx1]); try (simp only [rj_bx]); try (rw [hx3]); try (simp only [rj_bx]); try (rw [hE6]); try (simp only [rj_bx]); try rfl), rfl, (by unfold mX11_setGenerator; try (rw [hx1]); try (simp only [rj_bm]); try (rw [hx3]); try (simp only [rj_bm]); try (rw [hE6]); try (simp only [rj_bm]); try rfl)⟩
      · have hq3 := hq2; rw [hx5] at hq3; simp only [rq_bx] at hq3
        refine rj_iload 4 dX11_setGenerator_20 rfl rfl ?_
        refine rj_iconst (v := 0) dX11_setGenerator_22 rfl (by decide) ?_
        refine rj_bipush (v := 100) dX11_setGenerator_23 rfl (by decide) ?_
        refine rj_cSx (rest := []) (sX11_needRange (g := g) (ω := ω) hω μ a3 0 100   ) gX11_setGenerator_X11_needRange rfl hSX11_needRange ⟨Nat.le_of_ble_eq_true rfl, Nat.le_of_ble_eq_true rfl⟩ dX11_setGenerator_25 rfl rfl rfl (Nat.le_of_ble_eq_true rfl) rfl (Nat.le_of_ble_eq_true rfl) (fun E hE8 => ?_) (fun hx7 => ?_)
        · exact ⟨(by unfold fX11_setGenerator; try (rw [hx1]); try (simp only [rj_bx]); try (rw [hx3]); try (simp only [rj_bx]); try (rw [hx5]); try (simp only [rj_bx]); try (rw [hE8]); try (simp only [rj_bx]); try rfl), rfl, (by unfold mX11_setGenerator; try (rw [hx1]); try (simp only [rj_bm]); try (rw [hx3]); try (simp only [rj_bm]); try (rw [hx5]); try (simp only [rj_bm]); try (rw [hE8]); try (simp only [rj_bm]); try rfl)⟩
        · have hq4 := hq3; rw [hx7] at hq4; simp only [rq_bx] at hq4
          refine rj_aload_n 0 dX11_setGenerator_28 rfl rfl ?_
          refine rj_cV (rest := []) (sX11_beginChange (g := g) (ω := ω) hω μ   (hq4).1) gX11_setGenerator_X11_beginChange (rj_lt hω (k := 0) rfl) (rj_sh hω ly_0) rfl rfl hVX11_beginChange ⟨Nat.le_of_ble_eq_true rfl, Nat.le_of_ble_eq_true rfl⟩ dX11_setGenerator_29 rfl rfl rfl (Nat.le_of_ble_eq_true rfl) rfl (Nat.le_of_ble_eq_true rfl) rfl ?_
          refine rj_aload_n 0 dX11_setGenerator_32 rfl rfl ?_
          refine rj_getR (C0 := RX11) (T := TX11) (N := 6) (j := 0) (r := 1) dX11_setGenerator_33 rfl vX11_setGenerator_11 rfl (rj_lt hω (k := 0) rfl) (rj_sh hω ly_0) (by decide) kX11_setGenerator_12 rfl ?_
          refine rj_getR (C0 := RX5) (T := TX5) (N := 8) (j := 6) (r := 30) dX11_setGenerator_36 rfl vX11_setGenerator_5 rfl (rj_lt hω (k := 1) rfl) (rj_sh hω ly_1) (by decide) kX11_setGenerator_193 rfl ?_
          refine rj_getR (C0 := RX6) (T := TX6) (N := 8) (j := 2) (r := 33) dX11_setGenerator_39 rfl vX11_setGenerator_6 rfl (rj_lt hω (k := 30) rfl) (rj_sh hω ly_30) (by decide) kX11_setGenerator_202 rfl ?_
          refine rj_iload_n 1 dX11_setGenerator_42 rfl rfl ?_
          refine rj_iload_n 3 dX11_setGenerator_43 rfl rfl ?_
          refine rj_cS (rest := []) (sX11_replace (g := g) (ω := ω) (mX11_beginChange μ) 33 4 a0 a2 (rj_lt hω (k := 33) rfl) (rj_sh hω ly_33) (rj_bl rfl)  ) gX11_setGenerator_X11_replace rfl hSX11_replace ⟨Nat.le_of_ble_eq_true rfl, Nat.le_of_ble_eq_true rfl⟩ dX11_setGenerator_44 rfl rfl rfl (Nat.le_of_ble_eq_true rfl) rfl (Nat.le_of_ble_eq_true rfl) rfl ?_
          refine rj_pop dX11_setGenerator_47 rfl rfl ?_
          refine rj_aload_n 0 dX11_setGenerator_48 rfl rfl ?_
          refine rj_getR (C0 := RX11) (T := TX11) (N := 6) (j := 0) (r := 1) dX11_setGenerator_49 rfl vX11_setGenerator_11 rfl (rj_lt hω (k := 0) rfl) (rj_sh hω ly_0) (by decide) kX11_setGenerator_12 rfl ?_
          refine rj_getR (C0 := RX5) (T := TX5) (N := 8) (j := 6) (r := 30) dX11_setGenerator_52 rfl vX11_setGenerator_5 rfl (rj_lt hω (k := 1) rfl) (rj_sh hω ly_1) (by decide) kX11_setGenerator_193 rfl ?_
          refine rj_getR (C0 := RX6) (T := TX6) (N := 8) (j := 3) (r := 34) dX11_setGenerator_55 rfl vX11_setGenerator_6 rfl (rj_lt hω (k := 30) rfl) (rj_sh hω ly_30) (by decide) kX11_setGenerator_205 rfl ?_
          refine rj_iload_n 1 dX11_setGenerator_58 rfl rfl ?_
          refine rj_iload 4 dX11_setGenerator_59 rfl rfl ?_
          refine rj_cS (rest := []) (sX11_replace (g := g) (ω := ω) (mX11_replace (mX11_beginChange μ) 33 4 a0 a2) 34 4 a0 a3 (rj_lt hω (k := 34) rfl) (rj_sh hω ly_34) (rj_bl rfl)  ) gX11_setGenerator_X11_replace rfl hSX11_replace ⟨Nat.le_of_ble_eq_true rfl, Nat.le_of_ble_eq_true rfl⟩ dX11_setGenerator_61 rfl rfl rfl (Nat.le_of_ble_eq_true rfl) rfl (Nat.le_of_ble_eq_true rfl) rfl ?_
          refine rj_pop dX11_setGenerator_64 rfl rfl ?_
          refine rj_aload_n 0 dX11_setGenerator_65 rfl rfl ?_
          refine rj_getR (C0 := RX11) (T := TX11) (N := 6) (j := 0) (r := 1) dX11_setGenerator_66 rfl vX11_setGenerator_11 rfl (rj_lt hω (k := 0) rfl) (rj_sh hω ly_0) (by decide) kX11_setGenerator_12 rfl ?_
          refine rj_getR (C0 := RX5) (T := TX5) (N := 8) (j := 6) (r := 30) dX11_setGenerator_69 rfl vX11_setGenerator_5 rfl (rj_lt hω (k := 1) rfl) (rj_sh hω ly_1) (by decide) kX11_setGenerator_193 rfl ?_
          refine rj_getR (C0 := RX6) (T := TX6) (N := 8) (j := 1) (r := 32) dX11_setGenerator_72 rfl vX11_setGenerator_6 rfl (rj_lt hω (k := 30) rfl) (rj_sh hω ly_30) (by decide) kX11_setGenerator_208 rfl ?_
          refine rj_iload_n 1 dX11_setGenerator_75 rfl rfl ?_
          refine rj_iload_n 2 dX11_setGenerator_76 rfl rfl ?_
          refine rj_cS (rest := []) (sX11_replace (g := g) (ω := ω) (mX11_replace (mX11_replace (mX11_beginChange μ) 33 4 a0 a2) 34 4 a0 a3) 32 4 a0 a1 (rj_lt hω (k := 32) rfl) (rj_sh hω ly_32) (rj_bl rfl)  ) gX11_setGenerator_X11_replace rfl hSX11_replace ⟨Nat.le_of_ble_eq_true rfl, Nat.le_of_ble_eq_true rfl⟩ dX11_setGenerator_77 rfl rfl rfl (Nat.le_of_ble_eq_true rfl) rfl (Nat.le_of_ble_eq_true rfl) rfl ?_
          exact rj_iret dX11_setGenerator_80 rfl (Nat.le_of_ble_eq_true rfl) (Nat.le_of_ble_eq_true rfl) ⟨(by unfold fX11_setGenerator; try (rw [hx1]); try (simp only [rj_bx]); try (rw [hx3]); try (simp only [rj_bx]); try (rw [hx5]); try (simp only [rj_bx]); try (rw [hx7]); try (simp only [rj_bx]); try rfl), rfl, (by unfold mX11_setGenerator; try (rw [hx1]); try (simp only [rj_bm]); try (rw [hx3]); try (simp only [rj_bm]); try (rw [hx5]); try (simp only [rj_bm]); try (rw [hx7]); try (simp only [rj_bm]); try rfl)⟩
theorem hSX11_moveAll : yX11_moveAll.cls ≠ "java/lang/invoke/MethodHandle" ∧ yX11_moveAll.cls ≠ "java/lang/invoke/VarHandle" ∧ (parseMethodDescriptor yX11_moveAll.desc).map (fun d => d.parameters.length) = some 0 := by decide +kernel
theorem hVX11_moveAll : yX11_moveAll.cls = RX11 ∧ yX11_moveAll.cls ≠ "java/lang/invoke/MethodHandle" ∧ yX11_moveAll.cls ≠ "java/lang/invoke/VarHandle" ∧ (parseMethodDescriptor yX11_moveAll.desc).map (fun d => d.parameters.length) = some 0 := by decide +kernel
theorem vX11_moveAll_11 : ∀ w ∈ u_ws RX11 TX11 6, w ∈ wsX11_moveAll := by decide +kernel
theorem kX11_moveAll_40 : Cond.fieldLink RX11 40 (TX11 3).1 (TX11 3).2.1 (TX11 3).2.2.1 ∈ wsX11_moveAll := by decide +kernel
theorem vX11_moveAll_9 : ∀ w ∈ u_ws RX9 TX9 8, w ∈ wsX11_moveAll := by decide +kernel
theorem kX11_moveAll_211 : Cond.fieldLink RX11 211 (TX9 2).1 (TX9 2).2.1 (TX9 2).2.2.1 ∈ wsX11_moveAll := by decide +kernel
theorem xkX11_moveAll_108 : Cond.classLink RX11 108 "java/lang/IllegalStateException" ∈ wsX11_moveAll := by decide +kernel
theorem xiX11_moveAll_108 : Cond.initialized "java/lang/IllegalStateException" ∈ wsX11_moveAll := by decide +kernel
theorem xaX11_moveAll_112 : ∀ w ∈ (vx_atS RX11 112 "java/lang/IllegalStateException" rj_exn).filter goodWord, w ∈ wsX11_moveAll := by decide +kernel
theorem xbX11_moveAll_112 : ∀ w ∈ (vx_atS RX11 112 "java/lang/IllegalStateException" rj_exn).filter (fun w => !goodWord w), w ∈ Cond.castable "java/lang/IllegalStateException" "java/lang/IllegalStateException" :: rj_dc.map Cond.declares := by decide +kernel
theorem xgX11_moveAll_112 : ∀ w ∈ Cond.classLink RX11 108 "java/lang/IllegalStateException" :: Cond.initialized "java/lang/IllegalStateException" :: vx_atS RX11 112 "java/lang/IllegalStateException" rj_exn, vx_ot w = true := by decide +kernel
def fX11_moveAll (μ : rj_M) : Int32 ⊕ String := (if (μ.1 47 2) = 0 then (.inr "java/lang/IllegalStateException") else (.inl (fX9_carryOut (mX11_saveMoment μ))))
def mX11_moveAll (μ : rj_M) : rj_M := (if (μ.1 47 2) = 0 then μ else (mX9_forget (mX9_carryOut (mX11_saveMoment μ))))
def qX11_moveAll (μ : rj_M) : Prop := (if (μ.1 47 2) = 0 then True else (qX11_saveMoment μ ∧ True))
set_option maxHeartbeats 40000000 in
set_option maxRecDepth 100000 in
theorem sX11_moveAll {g : rj_G} {ω : rj_W} (hω : rj_ok ω) (μ : rj_M)   (hq : qX11_moveAll μ) : rj_Sp g yX11_moveAll wsX11_moveAll (rj_rm 6 1) [.ref (ω.2.2 0)] ω μ (rj_D (rj_oi (fX11_moveAll μ)) ω (mX11_moveAll μ)) := by
  have hqa := hq
  unfold qX11_moveAll at hqa
  refine rj_of' (cc := cX11_moveAll) (nL := 2) (ret := (some .int)) (own := RX11) (l0 := [(0, .ref (ω.2.2 0))]) rfl (by decide +kernel) rfl (Nat.le_of_ble_eq_true rfl) rfl ?_
  refine rj_aload_n 0 dX11_moveAll_0 rfl rfl ?_
  refine rj_getR (C0 := RX11) (T := TX11) (N := 6) (j := 3) (r := 47) dX11_moveAll_1 rfl vX11_moveAll_11 rfl (rj_lt hω (k := 0) rfl) (rj_sh hω ly_0) (by decide) kX11_moveAll_40 rfl ?_
  refine rj_getI (C0 := RX9) (T := TX9) (N := 8) (j := 2) dX11_moveAll_4 rfl vX11_moveAll_9 rfl (rj_lt hω (k := 47) rfl) (rj_sh hω ly_47) (by decide) kX11_moveAll_211 rfl ?_
  refine rj_if_ne dX11_moveAll_7 rfl rfl (fun h1 => ?_) (fun h1 => ?_)
  · have hq1 := hqa; rw [if_neg h1] at hq1
    refine rj_aload_n 0 dX11_moveAll_20 rfl rfl ?_
    refine rj_cV (rest := []) (sX11_saveMoment (g := g) (ω := ω) hω μ   (hq1).1) gX11_moveAll_X11_saveMoment (rj_lt hω (k := 0) rfl) (rj_sh hω ly_0) rfl rfl hVX11_saveMoment ⟨Nat.le_of_ble_eq_true rfl, Nat.le_of_ble_eq_true rfl⟩ dX11_moveAll_21 rfl rfl rfl (Nat.le_of_ble_eq_true rfl) rfl (Nat.le_of_ble_eq_true rfl) rfl ?_
    refine rj_aload_n 0 dX11_moveAll_24 rfl rfl ?_
    refine rj_getR (C0 := RX11) (T := TX11) (N := 6) (j := 3) (r := 47) dX11_moveAll_25 rfl vX11_moveAll_11 rfl (rj_lt hω (k := 0) rfl) (rj_sh hω ly_0) (by decide) kX11_moveAll_40 rfl ?_
    refine rj_cV (rest := []) (sX9_carryOut (g := g) (ω := ω) hω (mX11_saveMoment μ)   ) gX11_moveAll_X9_carryOut (rj_lt hω (k := 47) rfl) (rj_sh hω ly_47) rfl rfl hVX9_carryOut ⟨Nat.le_of_ble_eq_true rfl, Nat.le_of_ble_eq_true rfl⟩ dX11_moveAll_28 rfl rfl rfl (Nat.le_of_ble_eq_true rfl) rfl (Nat.le_of_ble_eq_true rfl) rfl ?_
    refine rj_istore_n (l' := [(1, .int (fX9_carryOut (mX11_saveMoment μ))), (0, .ref (ω.2.2 0))]) dX11_moveAll_31 rfl (rj_bl rfl) rfl ?_
    refine rj_aload_n 1 dX11_moveAll_32 rfl rfl ?_
    refine rj_getR (C0 := RX11) (T := TX11) (N := 6) (j := 3) (r := 47) dX11_moveAll_33 rfl vX11_moveAll_11 rfl (rj_lt hω (k := 0) rfl) (rj_sh hω ly_0) (by decide) kX11_moveAll_40 rfl ?_
    refine rj_cV (rest := []) (sX9_forget (g := g) (ω := ω) hω (mX9_carryOut (mX11_saveMoment μ))   ) gX11_moveAll_X9_forget (rj_lt hω (k := 47) rfl) (rj_sh hω ly_47) rfl rfl hVX9_forget ⟨Nat.le_of_ble_eq_true rfl, Nat.le_of_ble_eq_true rfl⟩ dX11_moveAll_36 rfl rfl rfl (Nat.le_of_ble_eq_true rfl) rfl (Nat.le_of_ble_eq_true rfl) rfl ?_
    refine rj_iload_n 0 dX11_moveAll_39 rfl rfl ?_
    exact rj_iret dX11_moveAll_40 rfl (Nat.le_of_ble_eq_true rfl) (Nat.le_of_ble_eq_true rfl) ⟨(by unfold fX11_moveAll; rw [if_neg h1]; try rfl), rfl, (by unfold mX11_moveAll; rw [if_neg h1]; try rfl)⟩
  · have hq2 := hqa; rw [if_pos h1] at hq2
    exact rj_throwL (cls := "java/lang/IllegalStateException") (text := "no rain plan is kept") dX11_moveAll_10 rfl dX11_moveAll_13 rfl dX11_moveAll_14 rfl dX11_moveAll_16 rfl dX11_moveAll_19 (by decide +kernel) xkX11_moveAll_108 xiX11_moveAll_108 (by decide +kernel) xaX11_moveAll_112 xbX11_moveAll_112 (by decide) xgX11_moveAll_112 (Nat.le_of_ble_eq_true rfl) (Nat.le_of_ble_eq_true rfl) (Nat.le_of_ble_eq_true rfl) ⟨(by unfold fX11_moveAll; rw [if_pos h1]; try rfl), rfl, (by unfold mX11_moveAll; rw [if_pos h1]; try rfl)⟩
