theorem hSX11_setDate : yX11_setDate.cls ≠ "java/lang/invoke/MethodHandle" ∧ yX11_setDate.cls ≠ "java/lang/invoke/VarHandle" ∧ (parseMethodDescriptor yX11_setDate.desc).map (fun d => d.parameters.length) = some 3 := by decide +kernel
theorem hVX11_setDate : yX11_setDate.cls = RX11 ∧ yX11_setDate.cls ≠ "java/lang/invoke/MethodHandle" ∧ yX11_setDate.cls ≠ "java/lang/invoke/VarHandle" ∧ (parseMethodDescriptor yX11_setDate.desc).map (fun d => d.parameters.length) = some 3 := by decide +kernel
theorem vX11_setDate_11 : ∀ w ∈ u_ws RX11 TX11 6, w ∈ wsX11_setDate := by decide +kernel
theorem kX11_setDate_12 : Cond.fieldLink RX11 12 (TX11 0).1 (TX11 0).2.1 (TX11 0).2.2.1 ∈ wsX11_setDate := by decide +kernel
theorem vX11_setDate_5 : ∀ w ∈ u_ws RX5 TX5 8, w ∈ wsX11_setDate := by decide +kernel
theorem kX11_setDate_67 : Cond.fieldLink RX11 67 (TX5 0).1 (TX5 0).2.1 (TX5 0).2.2.1 ∈ wsX11_setDate := by decide +kernel
theorem xkX11_setDate_57 : Cond.classLink RX11 57 "java/lang/IllegalArgumentException" ∈ wsX11_setDate := by decide +kernel
theorem xiX11_setDate_57 : Cond.initialized "java/lang/IllegalArgumentException" ∈ wsX11_setDate := by decide +kernel
theorem xaX11_setDate_61 : ∀ w ∈ (vx_atS RX11 61 "java/lang/IllegalArgumentException" rj_exn).filter goodWord, w ∈ wsX11_setDate := by decide +kernel
theorem xbX11_setDate_61 : ∀ w ∈ (vx_atS RX11 61 "java/lang/IllegalArgumentException" rj_exn).filter (fun w => !goodWord w), w ∈ Cond.castable "java/lang/IllegalArgumentException" "java/lang/IllegalArgumentException" :: rj_dc.map Cond.declares := by decide +kernel
theorem xgX11_setDate_61 : ∀ w ∈ Cond.classLink RX11 57 "java/lang/IllegalArgumentException" :: Cond.initialized "java/lang/IllegalArgumentException" :: vx_atS RX11 61 "java/lang/IllegalArgumentException" rj_exn, vx_ot w = true := by decide +kernel
def fX11_setDate (μ : rj_M) (a0 : Int32) (a1 : Int32) (a2 : Int32) : Int32 ⊕ String := (if (fX1_isDate μ a0 a1 a2) = 0 then (.inr "java/lang/IllegalArgumentException") else (.inl (fX1_weekdayOf (mX1_startOn (mX11_beginChange μ) a0 a1 a2) 0)))
def mX11_setDate (μ : rj_M) (a0 : Int32) (a1 : Int32) (a2 : Int32) : rj_M := (if (fX1_isDate μ a0 a1 a2) = 0 then μ else (mX1_startOn (mX11_beginChange μ) a0 a1 a2))
def qX11_setDate (μ : rj_M) (a0 : Int32) (a1 : Int32) (a2 : Int32) : Prop := (if (fX1_isDate μ a0 a1 a2) = 0 then True else (qX11_beginChange μ ∧ True))
set_option maxHeartbeats 40000000 in
set_option maxRecDepth 100000 in
theorem sX11_setDate {g : rj_G} {ω : rj_W} (hω : rj_ok ω) (μ : rj_M) (a0 : Int32) (a1 : Int32) (a2 : Int32)   (hq : qX11_setDate μ a0 a1 a2) : rj_Sp g yX11_setDate wsX11_setDate (rj_rm 6 1) [.ref (ω.2.2 0), .int a0, .int a1, .int a2] ω μ (rj_D (rj_oi (fX11_setDate μ a0 a1 a2)) ω (mX11_setDate μ a0 a1 a2)) := by
  have hqa := hq
  unfold qX11_setDate at hqa
  refine rj_of' (cc := cX11_setDate) (nL := 4) (ret := (some .int)) (own := RX11) (l0 := [(0, .ref (ω.2.2 0)), (1, .int a0), (2, .int a1), (3, .int a2)]) rfl (by decide +kernel) rfl (Nat.le_of_ble_eq_true rfl) rfl ?_
  refine rj_iload_n 1 dX11_setDate_0 rfl rfl ?_
  refine rj_iload_n 2 dX11_setDate_1 rfl rfl ?_
  refine rj_iload_n 3 dX11_setDate_2 rfl rfl ?_
  refine rj_cS (rest := []) (sX1_isDate (g := g) (ω := ω) hω μ a0 a1 a2   ) gX11_setDate_X1_isDate rfl hSX1_isDate ⟨Nat.le_of_ble_eq_true rfl, Nat.le_of_ble_eq_true rfl⟩ dX11_setDate_3 rfl rfl rfl (Nat.le_of_ble_eq_true rfl) rfl (Nat.le_of_ble_eq_true rfl) rfl ?_
  refine rj_if_ne dX11_setDate_6 rfl rfl (fun h1 => ?_) (fun h1 => ?_)
  · have hq1 := hqa; rw [if_neg h1] at hq1
    refine rj_aload_n 0 dX11_setDate_19 rfl rfl ?_
    refine rj_cV (rest := []) (sX11_beginChange (g := g) (ω := ω) hω μ   (hq1).1) gX11_setDate_X11_beginChange (rj_lt hω (k := 0) rfl) (rj_sh hω ly_0) rfl rfl hVX11_beginChange ⟨Nat.le_of_ble_eq_true rfl, Nat.le_of_ble_eq_true rfl⟩ dX11_setDate_20 rfl rfl rfl (Nat.le_of_ble_eq_true rfl) rfl (Nat.le_of_ble_eq_true rfl) rfl ?_
    refine rj_aload_n 0 dX11_setDate_23 rfl rfl ?_
    refine rj_getR (C0 := RX11) (T := TX11) (N := 6) (j := 0) (r := 1) dX11_setDate_24 rfl vX11_setDate_11 rfl (rj_lt hω (k := 0) rfl) (rj_sh hω ly_0) (by decide) kX11_setDate_12 rfl ?_
    refine rj_getR (C0 := RX5) (T := TX5) (N := 8) (j := 0) (r := 2) dX11_setDate_27 rfl vX11_setDate_5 rfl (rj_lt hω (k := 1) rfl) (rj_sh hω ly_1) (by decide) kX11_setDate_67 rfl ?_
    refine rj_iload_n 1 dX11_setDate_30 rfl rfl ?_
    refine rj_iload_n 2 dX11_setDate_31 rfl rfl ?_
    refine rj_iload_n 3 dX11_setDate_32 rfl rfl ?_
    refine rj_cV (rest := []) (sX1_startOn (g := g) (ω := ω) hω (mX11_beginChange μ) a0 a1 a2   ) gX11_setDate_X1_startOn (rj_lt hω (k := 2) rfl) (rj_sh hω ly_2) rfl rfl hVX1_startOn ⟨Nat.le_of_ble_eq_true rfl, Nat.le_of_ble_eq_true rfl⟩ dX11_setDate_33 rfl rfl rfl (Nat.le_of_ble_eq_true rfl) rfl (Nat.le_of_ble_eq_true rfl) rfl ?_
    refine rj_aload_n 0 dX11_setDate_36 rfl rfl ?_
    refine rj_getR (C0 := RX11) (T := TX11) (N := 6) (j := 0) (r := 1) dX11_setDate_37 rfl vX11_setDate_11 rfl (rj_lt hω (k := 0) rfl) (rj_sh hω ly_0) (by decide) kX11_setDate_12 rfl ?_
    refine rj_getR (C0 := RX5) (T := TX5) (N := 8) (j := 0) (r := 2) dX11_setDate_40 rfl vX11_setDate_5 rfl (rj_lt hω (k := 1) rfl) (rj_sh hω ly_1) (by decide) kX11_setDate_67 rfl ?_
    refine rj_iconst (v := 0) dX11_setDate_43 rfl (by decide) ?_
    refine rj_cV (rest := []) (sX1_weekdayOf (g := g) (ω := ω) hω (mX1_startOn (mX11_beginChange μ) a0 a1 a2) 0   ) gX11_setDate_X1_weekdayOf (rj_lt hω (k := 2) rfl) (rj_sh hω ly_2) rfl rfl hVX1_weekdayOf ⟨Nat.le_of_ble_eq_true rfl, Nat.le_of_ble_eq_true rfl⟩ dX11_setDate_44 rfl rfl rfl (Nat.le_of_ble_eq_true rfl) rfl (Nat.le_of_ble_eq_true rfl) rfl ?_
    exact rj_iret dX11_setDate_47 rfl (Nat.le_of_ble_eq_true rfl) (Nat.le_of_ble_eq_true rfl) ⟨(by unfold fX11_setDate; rw [if_neg h1]; try rfl), rfl, (by unfold mX11_setDate; rw [if_neg h1]; try rfl)⟩
  · have hq2 := hqa; rw [if_pos h1] at hq2
    exact rj_throwL (cls := "java/lang/IllegalArgumentException") (text := "there is no such date") dX11_setDate_9 rfl dX11_setDate_12 rfl dX11_setDate_13 rfl dX11_setDate_15 rfl dX11_setDate_18 (by decide +kernel) xkX11_setDate_57 xiX11_setDate_57 (by decide +kernel) xaX11_setDate_61 xbX11_setDate_61 (by decide) xgX11_setDate_61 (Nat.le_of_ble_eq_true rfl) (Nat.le_of_ble_eq_true rfl) (Nat.le_of_ble_eq_true rfl) ⟨(by unfold fX11_setDate; rw [if_pos h1]; try rfl), rfl, (by unfold mX11_setDate; rw [if_pos h1]; try rfl)⟩
theorem hSX11_setOpen : yX11_setOpen.cls ≠ "java/lang/invoke/MethodHandle" ∧ yX11_setOpen.cls ≠ "java/lang/invoke/VarHandle" ∧ (parseMethodDescriptor yX11_setOpen.desc).map (fun d => d.parameters.length) = some 2 := by decide +kernel
theorem hVX11_setOpen : yX11_setOpen.cls = RX11 ∧ yX11_setOpen.cls ≠ "java/lang/invoke/MethodHandle" ∧ yX11_setOpen.cls ≠ "java/lang/invoke/VarHandle" ∧ (parseMethodDescriptor yX11_setOpen.desc).map (fun d => d.parameters.length) = some 2 := by decide +kernel
theorem vX11_setOpen_11 : ∀ w ∈ u_ws RX11 TX11 6, w ∈ wsX11_setOpen := by decide +kernel
theorem kX11_setOpen_12 : Cond.fieldLink RX11 12 (TX11 0).1 (TX11 0).2.1 (TX11 0).2.2.1 ∈ wsX11_setOpen := by decide +kernel
theorem vX11_setOpen_5 : ∀ w ∈ u_ws RX5 TX5 8, w ∈ wsX11_setOpen := by decide +kernel
theorem kX11_setOpen_22 : Cond.fieldLink RX11 22 (TX5 1).1 (TX5 1).2.1 (TX5 1).2.2.1 ∈ wsX11_setOpen := by decide +kernel
def fX11_setOpen (μ : rj_M) (a0 : Int32) (a1 : Int32) : Int32 ⊕ String := (rj_bx (fX11_needPlace μ a0 4) (.inl (fX4_uncover (mX11_beginChange μ) a0 a1)))
def mX11_setOpen (μ : rj_M) (a0 : Int32) (a1 : Int32) : rj_M := (rj_bm (fX11_needPlace μ a0 4) (mX4_uncover (mX11_beginChange μ) a0 a1) μ)
def qX11_setOpen (μ : rj_M) (a0 : Int32) (a1 : Int32) : Prop := (rq_bx (fX11_needPlace μ a0 4) (qX11_beginChange μ ∧ True))
set_option maxHeartbeats 40000000 in
set_option maxRecDepth 100000 in
theorem sX11_setOpen {g : rj_G} {ω : rj_W} (hω : rj_ok ω) (μ : rj_M) (a0 : Int32) (a1 : Int32)   (hq : qX11_setOpen μ a0 a1) : rj_Sp g yX11_setOpen wsX11_setOpen (rj_rm 7 1) [.ref (ω.2.2 0), .int a0, .int a1] ω μ (rj_D (rj_oi (fX11_setOpen μ a0 a1)) ω (mX11_setOpen μ a0 a1)) := by
  have hqa := hq
  unfold qX11_setOpen at hqa
  refine rj_of' (cc := cX11_setOpen) (nL := 3) (ret := (some .boolean)) (own := RX11) (l0 := [(0, .ref (ω.2.2 0)), (1, .int a0), (2, .int a1)]) rfl (by decide +kernel) rfl (Nat.le_of_ble_eq_true rfl) rfl ?_
  refine rj_iload_n 1 dX11_setOpen_0 rfl rfl ?_
  refine rj_iconst (v := 4) dX11_setOpen_1 rfl (by decide) ?_
  refine rj_cSx (rest := []) (sX11_needPlace (g := g) (ω := ω) hω μ a0 4   ) gX11_setOpen_X11_needPlace rfl hSX11_needPlace ⟨Nat.le_of_ble_eq_true rfl, Nat.le_of_ble_eq_true rfl⟩ dX11_setOpen_2 rfl rfl rfl (Nat.le_of_ble_eq_true rfl) rfl (Nat.le_of_ble_eq_true rfl) (fun E hE2 => ?_) (fun hx1 => ?_)
  · exact ⟨(by unfold fX11_setOpen; try (rw [hE2]); try (simp only [rj_bx]); try rfl), rfl, (by unfold mX11_setOpen; try (rw [hE2]); try (simp only [rj_bm]); try rfl)⟩
  · have hq1 := hqa; rw [hx1] at hq1; simp only [rq_bx] at hq1
    refine rj_aload_n 0 dX11_setOpen_5 rfl rfl ?_
    refine rj_cV (rest := []) (sX11_beginChange (g := g) (ω := ω) hω μ   (hq1).1) gX11_setOpen_X11_beginChange (rj_lt hω (k := 0) rfl) (rj_sh hω ly_0) rfl rfl hVX11_beginChange ⟨Nat.le_of_ble_eq_true rfl, Nat.le_of_ble_eq_true rfl⟩ dX11_setOpen_6 rfl rfl rfl (Nat.le_of_ble_eq_true rfl) rfl (Nat.le_of_ble_eq_true rfl) rfl ?_
    refine rj_aload_n 0 dX11_setOpen_9 rfl rfl ?_
    refine rj_getR (C0 := RX11) (T := TX11) (N := 6) (j := 0) (r := 1) dX11_setOpen_10 rfl vX11_setOpen_11 rfl (rj_lt hω (k := 0) rfl) (rj_sh hω ly_0) (by decide) kX11_setOpen_12 rfl ?_
    refine rj_getR (C0 := RX5) (T := TX5) (N := 8) (j := 1) (r := 3) dX11_setOpen_13 rfl vX11_setOpen_5 rfl (rj_lt hω (k := 1) rfl) (rj_sh hω ly_1) (by decide) kX11_setOpen_22 rfl ?_
    refine rj_iload_n 1 dX11_setOpen_16 rfl rfl ?_
    refine rj_iload_n 2 dX11_setOpen_17 rfl rfl ?_
    refine rj_cV (rest := []) (sX4_uncover (g := g) (ω := ω) hω (mX11_beginChange μ) a0 a1   ) gX11_setOpen_X4_uncover (rj_lt hω (k := 3) rfl) (rj_sh hω ly_3) rfl rfl hVX4_uncover ⟨Nat.le_of_ble_eq_true rfl, Nat.le_of_ble_eq_true rfl⟩ dX11_setOpen_18 rfl rfl rfl (Nat.le_of_ble_eq_true rfl) rfl (Nat.le_of_ble_eq_true rfl) rfl ?_
    exact rj_zret dX11_setOpen_21 rfl (nX4_uncover ..) (Nat.le_of_ble_eq_true rfl) (Nat.le_of_ble_eq_true rfl) ⟨(by unfold fX11_setOpen; try (rw [hx1]); try (simp only [rj_bx]); try rfl), rfl, (by unfold mX11_setOpen; try (rw [hx1]); try (simp only [rj_bm]); try rfl)⟩
theorem hSX11_setWay : yX11_setWay.cls ≠ "java/lang/invoke/MethodHandle" ∧ yX11_setWay.cls ≠ "java/lang/invoke/VarHandle" ∧ (parseMethodDescriptor yX11_setWay.desc).map (fun d => d.parameters.length) = some 3 := by decide +kernel
theorem hVX11_setWay : yX11_setWay.cls = RX11 ∧ yX11_setWay.cls ≠ "java/lang/invoke/MethodHandle" ∧ yX11_setWay.cls ≠ "java/lang/invoke/VarHandle" ∧ (parseMethodDescriptor yX11_setWay.desc).map (fun d => d.parameters.length) = some 3 := by decide +kernel
theorem vX11_setWay_11 : ∀ w ∈ u_ws RX11 TX11 6, w ∈ wsX11_setWay := by decide +kernel
theorem kX11_setWay_12 : Cond.fieldLink RX11 12 (TX11 0).1 (TX11 0).2.1 (TX11 0).2.2.1 ∈ wsX11_setWay := by decide +kernel
theorem vX11_setWay_5 : ∀ w ∈ u_ws RX5 TX5 8, w ∈ wsX11_setWay := by decide +kernel
theorem kX11_setWay_22 : Cond.fieldLink RX11 22 (TX5 1).1 (TX5 1).2.1 (TX5 1).2.2.1 ∈ wsX11_setWay := by decide +kernel
def fX11_setWay (μ : rj_M) (a0 : Int32) (a1 : Int32) (a2 : Int32) : Int32 ⊕ String := (rj_bx (fX11_needPlace μ a0 4) (rj_bx (fX11_needPlace μ a1 4) (rj_bx (fX11_needOthers μ a0 a1) (rj_bx (fX11_needRange μ a2 1 60) (.inl (fX4_minutesBetween (mX4_layWay (mX11_beginChange μ) a0 a1 a2) a0 a1))))))
def mX11_setWay (μ : rj_M) (a0 : Int32) (a1 : Int32) (a2 : Int32) : rj_M := (rj_bm (fX11_needPlace μ a0 4) (rj_bm (fX11_needPlace μ a1 4) (rj_bm (fX11_needOthers μ a0 a1) (rj_bm (fX11_needRange μ a2 1 60) (mX4_layWay (mX11_beginChange μ) a0 a1 a2) μ) μ) μ) μ)
def qX11_setWay (μ : rj_M) (a0 : Int32) (a1 : Int32) (a2 : Int32) : Prop := (rq_bx (fX11_needPlace μ a0 4) (rq_bx (fX11_needPlace μ a1 4) (rq_bx (fX11_needOthers μ a0 a1) (rq_bx (fX11_needRange μ a2 1 60) (qX11_beginChange μ ∧ True)))))
set_option maxHeartbeats 40000000 in
set_option maxRecDepth 100000 in
theorem sX11_setWay {g : rj_G} {ω : rj_W} (hω : rj_ok ω) (μ : rj_M) (a0 : Int32) (a1 : Int32) (a2 : Int32)   (hq : qX11_setWay μ a0 a1 a2) : rj_Sp g yX11_setWay wsX11_setWay (rj_rm 7 4) [.ref (ω.2.2 0), .int a0, .int a1, .int a2] ω μ (rj_D (rj_oi (fX11_setWay μ a0 a1 a2)) ω (mX11_setWay μ a0 a1 a2)) := by
  have hqa := hq
  unfold qX11_setWay at hqa
  refine rj_of' (cc := cX11_setWay) (nL := 4) (ret := (some .int)) (own := RX11) (l0 := [(0, .ref (ω.2.2 0)), (1, .int a0), (2, .int a1), (3, .int a2)]) rfl (by decide +kernel) rfl (Nat.le_of_ble_eq_true rfl) rfl ?_
  refine rj_iload_n 1 dX11_setWay_0 rfl rfl ?_
  refine rj_iconst (v := 4) dX11_setWay_1 rfl (by decide) ?_
  refine rj_cSx (rest := []) (sX11_needPlace (g := g) (ω := ω) hω μ a0 4   ) gX11_setWay_X11_needPlace rfl hSX11_needPlace ⟨Nat.le_of_ble_eq_true rfl, Nat.le_of_ble_eq_true rfl⟩ dX11_setWay_2 rfl rfl rfl (Nat.le_of_ble_eq_true rfl) rfl (Nat.le_of_ble_eq_true rfl) (fun E hE2 => ?_) (fun hx1 => ?_)
  · exact ⟨(by unfold fX11_setWay; try (rw [hE2]); try (simp only [rj_bx]); try rfl), rfl, (by unfold mX11_setWay; try (rw [hE2]); try (simp only [rj_bm]); try rfl)⟩
  · have hq1 := hqa; rw [hx1] at hq1; simp only [rq_bx] at hq1
    refine rj_iload_n 2 dX11_setWay_5 rfl rfl ?_
    refine rj_iconst (v := 4) dX11_setWay_6 rfl (by decide) ?_
    refine rj_cSx (rest := []) (sX11_needPlace (g := g) (ω := ω) hω μ a1 4   ) gX11_setWay_X11_needPlace rfl hSX11_needPlace ⟨Nat.le_of_ble_eq_true rfl, Nat.le_of_ble_eq_true rfl⟩ dX11_setWay_7 rfl rfl rfl (Nat.le_of_ble_eq_true rfl) rfl (Nat.le_of_ble_eq_true rfl) (fun E hE4 => ?_) (fun hx3 => ?_)
    · exact ⟨(by unfold fX11_setWay; try (rw [hx1]); try (simp only [rj_bx]); try (rw [hE4]); try (simp only [rj_bx]); try rfl), rfl, (by unfold mX11_setWay; try (rw [hx1]); try (simp only [rj_bm]); try (rw [hE4]); try (simp only [rj_bm]); try rfl)⟩
    · have hq2 := hq1; rw [hx3] at hq2; simp only [rq_bx] at hq2
      refine rj_iload_n 1 dX11_setWay_10 rfl rfl ?_
      refine rj_iload_n 2 dX11_setWay_11 rfl rfl ?_
      refine rj_cSx (rest := []) (sX11_needOthers (g := g) (ω := ω) hω μ a0 a1   ) gX11_setWay_X11_needOthers rfl hSX11_needOthers ⟨Nat.le_of_ble_eq_true rfl, Nat.le_of_ble_eq_true rfl⟩ dX11_setWay_12 rfl rfl rfl (Nat.le_of_ble_eq_true rfl) rfl (Nat.le_of_ble_eq_true rfl) (fun E hE6 => ?_) (fun hx5 => ?_)
      · exact ⟨(by unfold fX11_setWay; try (rw [hx1]); try (simp only [rj_bx]); try (rw [hx3]); try (simp only [rj_bx]); try (rw [hE6]); try (simp only [rj_bx]); try rfl), rfl, (by unfold mX11_setWay; try (rw [hx1]); try (simp only [rj_bm]); try (rw [hx3]); try (simp only [rj_bm]); try (rw [hE6]); try (simp only [rj_bm]); try rfl)⟩
      · have hq3 := hq2; rw [hx5] at hq3; simp only [rq_bx] at hq3
        refine rj_iload_n 3 dX11_setWay_15 rfl rfl ?_
        refine rj_iconst (v := 1) dX11_setWay_16 rfl (by decide) ?_
        refine rj_bipush (v := 60) dX11_setWay_17 rfl (by decide) ?_
        refine rj_cSx (rest := []) (sX11_needRange (g := g) (ω := ω) hω μ a2 1 60   ) gX11_setWay_X11_needRange rfl hSX11_needRange ⟨Nat.le_of_ble_eq_true rfl, Nat.le_of_ble_eq_true rfl⟩ dX11_setWay_19 rfl rfl rfl (Nat.le_of_ble_eq_true rfl) rfl (Nat.le_of_ble_eq_true rfl) (fun E hE8 => ?_) (fun hx7 => ?_)
        · exact ⟨(by unfold fX11_setWay; try (rw [hx1]); try (simp only [rj_bx]); try (rw [hx3]); try (simp only [rj_bx]); try (rw [hx5]); try (simp only [rj_bx]); try (rw [hE8]); try (simp only [rj_bx]); try rfl), rfl, (by unfold mX11_setWay; try (rw [hx1]); try (simp only [rj_bm]); try (rw [hx3]); try (simp only [rj_bm]); try (rw [hx5]); try (simp only [rj_bm]); try (rw [hE8]); try (simp only [rj_bm]); try rfl)⟩
        · have hq4 := hq3; rw [hx7] at hq4; simp only [rq_bx] at hq4
          refine rj_aload_n 0 dX11_setWay_22 rfl rfl ?_
          refine rj_cV (rest := []) (sX11_beginChange (g := g) (ω := ω) hω μ   (hq4).1) gX11_setWay_X11_beginChange (rj_lt hω (k := 0) rfl) (rj_sh hω ly_0) rfl rfl hVX11_beginChange ⟨Nat.le_of_ble_eq_true rfl, Nat.le_of_ble_eq_true rfl⟩ dX11_setWay_23 rfl rfl rfl (Nat.le_of_ble_eq_true rfl) rfl (Nat.le_of_ble_eq_true rfl) rfl ?_
          refine rj_aload_n 0 dX11_setWay_26 rfl rfl ?_
          refine rj_getR (C0 := RX11) (T := TX11) (N := 6) (j := 0) (r := 1) dX11_setWay_27 rfl vX11_setWay_11 rfl (rj_lt hω (k := 0) rfl) (rj_sh hω ly_0) (by decide) kX11_setWay_12 rfl ?_
          refine rj_getR (C0 := RX5) (T := TX5) (N := 8) (j := 1) (r := 3) dX11_setWay_30 rfl vX11_setWay_5 rfl (rj_lt hω (k := 1) rfl) (rj_sh hω ly_1) (by decide) kX11_setWay_22 rfl ?_
          refine rj_iload_n 1 dX11_setWay_33 rfl rfl ?_
          refine rj_iload_n 2 dX11_setWay_34 rfl rfl ?_
          refine rj_iload_n 3 dX11_setWay_35 rfl rfl ?_
          refine rj_cV (rest := []) (sX4_layWay (g := g) (ω := ω) hω (mX11_beginChange μ) a0 a1 a2   ) gX11_setWay_X4_layWay (rj_lt hω (k := 3) rfl) (rj_sh hω ly_3) rfl rfl hVX4_layWay ⟨Nat.le_of_ble_eq_true rfl, Nat.le_of_ble_eq_true rfl⟩ dX11_setWay_36 rfl rfl rfl (Nat.le_of_ble_eq_true rfl) rfl (Nat.le_of_ble_eq_true rfl) rfl ?_
          refine rj_aload_n 0 dX11_setWay_39 rfl rfl ?_
          refine rj_getR (C0 := RX11) (T := TX11) (N := 6) (j := 0) (r := 1) dX11_setWay_40 rfl vX11_setWay_11 rfl (rj_lt hω (k := 0) rfl) (rj_sh hω ly_0) (by decide) kX11_setWay_12 rfl ?_
          refine rj_getR (C0 := RX5) (T := TX5) (N := 8) (j := 1) (r := 3) dX11_setWay_43 rfl vX11_setWay_5 rfl (rj_lt hω (k := 1) rfl) (rj_sh hω ly_1) (by decide) kX11_setWay_22 rfl ?_
          refine rj_iload_n 1 dX11_setWay_46 rfl rfl ?_
          refine rj_iload_n 2 dX11_setWay_47 rfl rfl ?_
          refine rj_cV (rest := []) (sX4_minutesBetween (g := g) (ω := ω) hω (mX4_layWay (mX11_beginChange μ) a0 a1 a2) a0 a1   ) gX11_setWay_X4_minutesBetween (rj_lt hω (k := 3) rfl) (rj_sh hω ly_3) rfl rfl hVX4_minutesBetween ⟨Nat.le_of_ble_eq_true rfl, Nat.le_of_ble_eq_true rfl⟩ dX11_setWay_48 rfl rfl rfl (Nat.le_of_ble_eq_true rfl) rfl (Nat.le_of_ble_eq_true rfl) rfl ?_
          exact rj_iret dX11_setWay_51 rfl (Nat.le_of_ble_eq_true rfl) (Nat.le_of_ble_eq_true rfl) ⟨(by unfold fX11_setWay; try (rw [hx1]); try (simp only [rj_bx]); try (rw [hx3]); try (simp only [rj_bx]); try (rw [hx5]); try (simp only [rj_bx]); try (rw [hx7]); try (simp only [rj_bx]); try rfl), rfl, (by unfold mX11_setWay; try (rw [hx1]); try (simp only [rj_bm]); try (rw [hx3]); try (simp only [rj_bm]); try (rw [hx5]); try (simp only [rj_bm]); try (rw [hx7]); try (simp only [rj_bm]); try rfl)⟩
theorem hSX11_act : yX11_act.cls ≠ "java/lang/invoke/MethodHandle" ∧ yX11_act.cls ≠ "java/lang/invoke/VarHandle" ∧ (parseMethodDescriptor yX11_act.desc).map (fun d => d.parameters.length) = some 5 := by decide +kernel
theorem hVX11_act : yX11_act.cls = RX11 ∧ yX11_act.cls ≠ "java/lang/invoke/MethodHandle" ∧ yX11_act.cls ≠ "java/lang/invoke/VarHandle" ∧ (parseMethodDescriptor yX11_act.desc).map (fun d => d.parameters.length) = some 5 := by decide +kernel
theorem vX11_act_11 : ∀ w ∈ u_ws RX11 TX11 6, w ∈ wsX11_act := by decide +kernel
theorem kX11_act_12 : Cond.fieldLink RX11 12 (TX11 0).1 (TX11 0).2.1 (TX11 0).2.2.1 ∈ wsX11_act := by decide +kernel
theorem vX11_act_5 : ∀ w ∈ u_ws RX5 TX5 8, w ∈ wsX11_act := by decide +kernel
theorem kX11_act_26 : Cond.fieldLink RX11 26 (TX5 2).1 (TX5 2).2.1 (TX5 2).2.2.1 ∈ wsX11_act := by decide +kernel
theorem xkX11_act_108 : Cond.classLink RX11 108 "java/lang/IllegalStateException" ∈ wsX11_act := by decide +kernel
theorem xiX11_act_108 : Cond.initialized "java/lang/IllegalStateException" ∈ wsX11_act := by decide +kernel
theorem xaX11_act_112 : ∀ w ∈ (vx_atS RX11 112 "java/lang/IllegalStateException" rj_exn).filter goodWord, w ∈ wsX11_act := by decide +kernel
theorem xbX11_act_112 : ∀ w ∈ (vx_atS RX11 112 "java/lang/IllegalStateException" rj_exn).filter (fun w => !goodWord w), w ∈ Cond.castable "java/lang/IllegalStateException" "java/lang/IllegalStateException" :: rj_dc.map Cond.declares := by decide +kernel
theorem xgX11_act_112 : ∀ w ∈ Cond.classLink RX11 108 "java/lang/IllegalStateException" :: Cond.initialized "java/lang/IllegalStateException" :: vx_atS RX11 112 "java/lang/IllegalStateException" rj_exn, vx_ot w = true := by decide +kernel
def fX11_act (μ : rj_M) (a0 : Int32) (a1 : Int32) (a2 : Int32) (a3 : Int32) (a4 : Int32) : Int32 ⊕ String := (rj_bx (fX11_needPlace μ a0 4) (rj_bx (fX11_needRange μ a1 0 5759) (rj_bx (fX11_needRange μ a2 10 240) (rj_bx (fX11_needRange μ a3 0 60) (rj_bx (fX11_needRange μ a4 1 4095) (rj_bx (fX11_needRange μ (a1 - a3) 0 5760) (rj_bx (fX11_needRange μ (a1 + a2) 0 5760) (if (fX7_freeNumber μ) = (-1) then (.inr "java/lang/IllegalStateException") else (.inl (fX7_freeNumber μ))))))))))
def mX11_act (μ : rj_M) (a0 : Int32) (a1 : Int32) (a2 : Int32) (a3 : Int32) (a4 : Int32) : rj_M := (rj_bm (fX11_needPlace μ a0 4) (rj_bm (fX11_needRange μ a1 0 5759) (rj_bm (fX11_needRange μ a2 10 240) (rj_bm (fX11_needRange μ a3 0 60) (rj_bm (fX11_needRange μ a4 1 4095) (rj_bm (fX11_needRange μ (a1 - a3) 0 5760) (rj_bm (fX11_needRange μ (a1 + a2) 0 5760) (if (fX7_freeNumber μ) = (-1) then μ else (mX7_add (mX11_beginChange μ) (fX7_freeNumber μ) a0 a1 a2 a3 a4)) μ) μ) μ) μ) μ) μ) μ)
def qX11_act (μ : rj_M) (a0 : Int32) (a1 : Int32) (a2 : Int32) (a3 : Int32) (a4 : Int32) : Prop := (rq_bx (fX11_needPlace μ a0 4) (rq_bx (fX11_needRange μ a1 0 5759) (rq_bx (fX11_needRange μ a2 10 240) (rq_bx (fX11_needRange μ a3 0 60) (rq_bx (fX11_needRange μ a4 1 4095) (rq_bx (fX11_needRange μ (a1 - a3) 0 5760) (rq_bx (fX11_needRange μ (a1 + a2) 0 5760) (if (fX7_freeNumber μ) = (-1) then True else (qX11_beginChange μ ∧ True)))))))))
set_option maxHeartbeats 40000000 in
set_option maxRecDepth 100000 in
theorem sX11_act {g : rj_G} {ω : rj_W} (hω : rj_ok ω) (μ : rj_M) (a0 : Int32) (a1 : Int32) (a2 : Int32) (a3 : Int32) (a4 : Int32)   (hq : qX11_act μ a0 a1 a2 a3 a4) : rj_Sp g yX11_act wsX11_act (rj_rm 7 8) [.ref (ω.2.2 0), .int a0, .int a1, .int a2, .int a3, .int a4] ω μ (rj_D (rj_oi (fX11_act μ a0 a1 a2 a3 a4)) ω (mX11_act μ a0 a1 a2 a3 a4)) := by
  have hqa := hq
  unfold qX11_act at hqa
  refine rj_of' (cc := cX11_act) (nL := 7) (ret := (some .int)) (own := RX11) (l0 := [(0, .ref (ω.2.2 0)), (1, .int a0), (2, .int a1), (3, .int a2), (4, .int a3), (5, .int a4)]) rfl (by decide +kernel) rfl (Nat.le_of_ble_eq_true rfl) rfl ?_
  refine rj_iload_n 1 dX11_act_0 rfl rfl ?_
  refine rj_iconst (v := 4) dX11_act_1 rfl (by decide) ?_
  refine rj_cSx (rest := []) (sX11_needPlace (g := g) (ω := ω) hω μ a0 4   ) gX11_act_X11_needPlace rfl hSX11_needPlace ⟨Nat.le_of_ble_eq_true rfl, Nat.le_of_ble_eq_true rfl⟩ dX11_act_2 rfl rfl rfl (Nat.le_of_ble_eq_true rfl) rfl (Nat.le_of_ble_eq_true rfl) (fun E hE2 => ?_) (fun hx1 => ?_)
  · exact ⟨(by unfold fX11_act; try (rw [hE2]); try (simp only [rj_bx]); try rfl), rfl, (by unfold mX11_act; try (rw [hE2]); try (simp only [rj_bm]); try rfl)⟩
  · have hq1 := hqa; rw [hx1] at hq1; simp only [rq_bx] at hq1
    refine rj_iload_n 2 dX11_act_5 rfl rfl ?_
    refine rj_iconst (v := 0) dX11_act_6 rfl (by decide) ?_
    refine rj_sipush (v := 5759) dX11_act_7 rfl (by decide) ?_
    refine rj_cSx (rest := []) (sX11_needRange (g := g) (ω := ω) hω μ a1 0 5759   ) gX11_act_X11_needRange rfl hSX11_needRange ⟨Nat.le_of_ble_eq_true rfl, Nat.le_of_ble_eq_true rfl⟩ dX11_act_10 rfl rfl rfl (Nat.le_of_ble_eq_true rfl) rfl (Nat.le_of_ble_eq_true rfl) (fun E hE4 => ?_) (fun hx3 => ?_)
    · exact ⟨(by unfold fX11_act; try (rw [hx1]); try (simp only [rj_bx]); try (rw [hE4]); try (simp only [rj_bx]); try rfl), rfl, (by unfold mX11_act; try (rw [hx1]); try (simp only [rj_bm]); try (rw [hE4]); try (simp only [rj_bm]); try rfl)⟩
    · have hq2 := hq1; rw [hx3] at hq2; simp only [rq_bx] at hq2
      refine rj_iload_n 3 dX11_act_13 rfl rfl ?_
      refine rj_bipush (v := 10) dX11_act_14 rfl (by decide) ?_
      refine rj_sipush (v := 240) dX11_act_16 rfl (by decide) ?_
      refine rj_cSx (rest := []) (sX11_needRange (g := g) (ω := ω) hω μ a2 10 240   ) gX11_act_X11_needRange rfl hSX11_needRange ⟨Nat.le_of_ble_eq_true rfl, Nat.le_of_ble_eq_true rfl⟩ dX11_act_19 rfl rfl rfl (Nat.le_of_ble_eq_true rfl) rfl (Nat.le_of_ble_eq_true rfl) (fun E hE6 => ?_) (fun hx5 => ?_)
      · exact ⟨(by unfold fX11_act; try (rw [hx1]); try (simp only [rj_bx]); try (rw [hx3]); try (simp only [rj_bx]); try (rw [hE6]); try (simp only [rj_bx]); try rfl), rfl, (by unfold mX11_act; try (rw [hx1]); try (simp only [rj_bm]); try (rw [hx3]); try (simp only [rj_bm]); try (rw [hE6]); try (simp only [rj_bm]); try rfl)⟩
      · have hq3 := hq2; rw [hx5] at hq3; simp only [rq_bx] at hq3
        refine rj_iload 4 dX11_act_22 rfl rfl ?_
        refine rj_iconst (v := 0) dX11_act_24 rfl (by decide) ?_
        refine rj_bipush (v := 60) dX11_act_25 rfl (by decide) ?_
        refine rj_cSx (rest := []) (sX11_needRange (g := g) (ω := ω) hω μ a3 0 60   ) gX11_act_X11_needRange rfl hSX11_needRange ⟨Nat.le_of_ble_eq_true rfl, Nat.le_of_ble_eq_true rfl⟩ dX11_act_27 rfl rfl rfl (Nat.le_of_ble_eq_true rfl) rfl (Nat.le_of_ble_eq_true rfl) (fun E hE8 => ?_) (fun hx7 => ?_)
        · exact ⟨(by unfold fX11_act; try (rw [hx1]); try (simp only [rj_bx]); try (rw [hx3]); try (simp only [rj_bx]); try (rw [hx5]); try (simp only [rj_bx]); try (rw [hE8]); try (simp only [rj_bx]); try rfl), rfl, (by unfold mX11_act; try (rw [hx1]); try (simp only [rj_bm]); try (rw [hx3]); try (simp only [rj_bm]); try (rw [hx5]); try (simp only [rj_bm]); try (rw [hE8]); try (simp only [rj_bm]); try rfl)⟩
        · have hq4 := hq3; rw [hx7] at hq4; simp only [rq_bx] at hq4
          refine rj_iload 5 dX11_act_30 rfl rfl ?_
          refine rj_iconst (v := 1) dX11_act_32 rfl (by decide) ?_
          refine rj_sipush (v := 4095) dX11_act_33 rfl (by decide) ?_
          refine rj_cSx (rest := []) (sX11_needRange (g := g) (ω := ω) hω μ a4 1 4095   ) gX11_act_X11_needRange rfl hSX11_needRange ⟨Nat.le_of_ble_eq_true rfl, Nat.le_of_ble_eq_true rfl⟩ dX11_act_36 rfl rfl rfl (Nat.le_of_ble_eq_true rfl) rfl (Nat.le_of_ble_eq_true rfl) (fun E hE10 => ?_) (fun hx9 => ?_)
          · exact ⟨(by unfold fX11_act; try (rw [hx1]); try (simp only [rj_bx]); try (rw [hx3]); try (simp only [rj_bx]); try (rw [hx5]); try (simp only [rj_bx]); try (rw [hx7]); try (simp only [rj_bx]); try (rw [hE10]); try (simp only [rj_bx]); try rfl), rfl, (by unfold mX11_act; try (rw [hx1]); try (simp only [rj_bm]); try (rw [hx3]); try (simp only [rj_bm]); try (rw [hx5]); try (simp only [rj_bm]); try (rw [hx7]); try (simp only [rj_bm]); try (rw [hE10]); try (simp only [rj_bm]); try rfl)⟩
          · have hq5 := hq4; rw [hx9] at hq5; simp only [rq_bx] at hq5
            refine rj_iload_n 2 dX11_act_39 rfl rfl ?_
            refine rj_iload 4 dX11_act_40 rfl rfl ?_
            refine rj_isub dX11_act_42 rfl ?_
            refine rj_iconst (v := 0) dX11_act_43 rfl (by decide) ?_
            refine rj_sipush (v := 5760) dX11_act_44 rfl (by decide) ?_
            refine rj_cSx (rest := []) (sX11_needRange (g := g) (ω := ω) hω μ (a1 - a3) 0 5760   ) gX11_act_X11_needRange rfl hSX11_needRange ⟨Nat.le_of_ble_eq_true rfl, Nat.le_of_ble_eq_true rfl⟩ dX11_act_47 rfl rfl rfl (Nat.le_of_ble_eq_true rfl) rfl (Nat.le_of_ble_eq_true rfl) (fun E hE12 => ?_) (fun hx11 => ?_)
            · exact ⟨(by unfold fX11_act; try (rw [hx1]); try (simp only [rj_bx]); try (rw [hx3]); try (simp only [rj_bx]); try (rw [hx5]); try (simp only [rj_bx]); try (rw [hx7]); try (simp only [rj_bx]); try (rw [hx9]); try (simp only [rj_bx]); try (rw [hE12]); try (simp only [rj_bx]); try rfl), rfl, (by unfold mX11_act; try (rw [hx1]); try (simp only [rj_bm]); try (rw [hx3]); try (simp only [rj_bm]); try (rw [hx5]); try (simp only [rj_bm]); try (rw [hx7]); try (simp only [rj_bm]); try (rw [hx9]); try (simp only [rj_bm]); try (rw [hE12]); try (simp only [rj_bm]); try rfl)⟩
            · have hq6 := hq5; rw [hx11] at hq6; simp only [rq_bx] at hq6
              refine rj_iload_n 2 dX11_act_50 rfl rfl ?_
              refine rj_iload_n 3 dX11_act_51 rfl rfl ?_
              refine rj_iadd dX11_act_52 rfl ?_
              refine rj_iconst (v := 0) dX11_act_53 rfl (by decide) ?_
              refine rj_sipush (v := 5760) dX11_act_54 rfl (by decide) ?_
              refine rj_cSx (rest := []) (sX11_needRange (g := g) (ω := ω) hω μ (a1 + a2) 0 5760   ) gX11_act_X11_needRange rfl hSX11_needRange ⟨Nat.le_of_ble_eq_true rfl, Nat.le_of_ble_eq_true rfl⟩ dX11_act_57 rfl rfl rfl (Nat.le_of_ble_eq_true rfl) rfl (Nat.le_of_ble_eq_true rfl) (fun E hE14 => ?_) (fun hx13 => ?_)
              · exact ⟨(by unfold fX11_act; try (rw [hx1]); try (simp only [rj_bx]); try (rw [hx3]); try (simp only [rj_bx]); try (rw [hx5]); try (simp only [rj_bx]); try (rw [hx7]); try (simp only [rj_bx]); try (rw [hx9]); try (simp only [rj_bx]); try (rw [hx11]); try (simp only [rj_bx]); try (rw [hE14]); try (simp only [rj_bx]); try rfl), rfl, (by unfold mX11_act; try (rw [hx1]); try (simp only [rj_bm]); try (rw [hx3]); try (simp only [rj_bm]); try (rw [hx5]); try (simp only [rj_bm]); try (rw [hx7]); try (simp only [rj_bm]); try (rw [hx9]); try (simp only [rj_bm]); try (rw [hx11]); try (simp only [rj_bm]); try (rw [hE14]); try (simp only [rj_bm]); try rfl)⟩
              · have hq7 := hq6; rw [hx13] at hq7; simp only [rq_bx] at hq7
                refine rj_aload_n 0 dX11_act_60 rfl rfl ?_
                refine rj_getR (C0 := RX11) (T := TX11) (N := 6) (j := 0) (r := 1) dX11_act_61 rfl vX11_act_11 rfl (rj_lt hω (k := 0) rfl) (rj_sh hω ly_0) (by decide) kX11_act_12 rfl ?_
                refine rj_getR (C0 := RX5) (T := TX5) (N := 8) (j := 2) (r := 8) dX11_act_64 rfl vX11_act_5 rfl (rj_lt hω (k := 1) rfl) (rj_sh hω ly_1) (by decide) kX11_act_26 rfl ?_
                refine rj_cV (rest := []) (sX7_freeNumber (g := g) (ω := ω) hω μ   ) gX11_act_X7_freeNumber (rj_lt hω (k := 8) rfl) (rj_sh hω ly_8) rfl rfl hVX7_freeNumber ⟨Nat.le_of_ble_eq_true rfl, Nat.le_of_ble_eq_true rfl⟩ dX11_act_67 rfl rfl rfl (Nat.le_of_ble_eq_true rfl) rfl (Nat.le_of_ble_eq_true rfl) rfl ?_
                refine rj_istore (l' := [(6, .int (fX7_freeNumber μ)), (0, .ref (ω.2.2 0)), (1, .int a0), (2, .int a1), (3, .int a2), (4, .int a3), (5, .int a4)]) dX11_act_70 rfl (rj_bl rfl) rfl ?_
                refine rj_iload 0 dX11_act_72 rfl rfl ?_
                refine rj_iconst (v := (-1)) dX11_act_74 rfl (by decide) ?_
                refine rj_icmp_ne dX11_act_75 rfl rfl (fun h15 => ?_) (fun h15 => ?_)
                · have hq8 := hq7; rw [if_neg h15] at hq8
                  refine rj_aload_n 1 dX11_act_88 rfl rfl ?_
                  refine rj_cV (rest := []) (sX11_beginChange (g := g) (ω := ω) hω μ   (hq8).1) gX11_act_X11_beginChange (rj_lt hω (k := 0) rfl) (rj_sh hω ly_0) rfl rfl hVX11_beginChange ⟨Nat.le_of_ble_eq_true rfl, Nat.le_of_ble_eq_true rfl⟩ dX11_act_89 rfl rfl rfl (Nat.le_of_ble_eq_true rfl) rfl (Nat.le_of_ble_eq_true rfl) rfl ?_
                  refine rj_aload_n 1 dX11_act_92 rfl rfl ?_
                  refine rj_getR (C0 := RX11) (T := TX11) (N := 6) (j := 0) (r := 1) dX11_act_93 rfl vX11_act_11 rfl (rj_lt hω (k := 0) rfl) (rj_sh hω ly_0) (by decide) kX11_act_12 rfl ?_
                  refine rj_getR (C0 := RX5) (T := TX5) (N := 8) (j := 2) (r := 8) dX11_act_96 rfl vX11_act_5 rfl (rj_lt hω (k := 1) rfl) (rj_sh hω ly_1) (by decide) kX11_act_26 rfl ?_
                  refine rj_iload 0 dX11_act_99 rfl rfl ?_
                  refine rj_iload_n 2 dX11_act_101 rfl rfl ?_
                  refine rj_iload_n 3 dX11_act_102 rfl rfl ?_
                  refine rj_iload_n 4 dX11_act_103 rfl rfl ?_
                  refine rj_iload 5 dX11_act_104 rfl rfl ?_
                  refine rj_iload 6 dX11_act_106 rfl rfl ?_
                  refine rj_cV (rest := []) (sX7_add (g := g) (ω := ω) hω (mX11_beginChange μ) (fX7_freeNumber μ) a0 a1 a2 a3 a4   ) gX11_act_X7_add (rj_lt hω (k := 8) rfl) (rj_sh hω ly_8) rfl rfl hVX7_add ⟨Nat.le_of_ble_eq_true rfl, Nat.le_of_ble_eq_true rfl⟩ dX11_act_108 rfl rfl rfl (Nat.le_of_ble_eq_true rfl) rfl (Nat.le_of_ble_eq_true rfl) rfl ?_
                  refine rj_iload 0 dX11_act_111 rfl rfl ?_
                  exact rj_iret dX11_act_113 rfl (Nat.le_of_ble_eq_true rfl) (Nat.le_of_ble_eq_true rfl) ⟨(by unfold fX11_act; try (rw [hx1]); try (simp only [rj_bx]); try (rw [hx3]); try (simp only [rj_bx]); try (rw [hx5]); try (simp only [rj_bx]); try (rw [hx7]); try (simp only [rj_bx]); try (rw [hx9]); try (simp only [rj_bx]); try (rw [hx11]); try (simp only [rj_bx]); try (rw [hx13]); try (simp only [rj_bx]); try (rw [if_neg h15]); try rfl), rfl, (by unfold mX11_act; try (rw [hx1]); try (simp only [rj_bm]); try (rw [hx3]); try (simp only [rj_bm]); try (rw [hx5]); try (simp only [rj_bm]); try (rw [hx7]); try (simp only [rj_bm]); try (rw [hx9]); try (simp only [rj_bm]); try (rw [hx11]); try (simp only [rj_bm]); try (rw [hx13]); try (simp only [rj_bm]); try (rw [if_neg h15]); try rfl)⟩
                · have hq9 := hq7; rw [if_pos h15] at hq9
                  exact rj_throwL (cls := "java/lang/IllegalStateException") (text := "there are 16 acts") dX11_act_78 rfl dX11_act_81 rfl dX11_act_82 rfl dX11_act_84 rfl dX11_act_87 (by decide +kernel) xkX11_act_108 xiX11_act_108 (by decide +kernel) xaX11_act_112 xbX11_act_112 (by decide) xgX11_act_112 (Nat.le_of_ble_eq_true rfl) (Nat.le_of_ble_eq_true rfl) (Nat.le_of_ble_eq_true rfl) ⟨(by unfold fX11_act; try (rw [hx1]); try (simp only [rj_bx]); try (rw [hx3]); try (simp only [rj_bx]); try (rw [hx5]); try (simp only [rj_bx]); try (rw [hx7]); try (simp only [rj_bx]); try (rw [hx9]); try (simp only [rj_bx]); try (rw [hx11]); try (simp only [rj_bx]); try (rw [hx13]); try (simp only [rj_bx]); try (rw [if_pos h15]); try rfl), rfl, (by unfold mX11_act; try (rw [hx1]); try (simp only [rj_bm]); try (rw [hx3]); try (simp only [rj_bm]); try (rw [hx5]); try (simp only [rj_bm]); try (rw [hx7]); try (simp only [rj_bm]); try (rw [hx9]); try (simp only [rj_bm]); try (rw [hx11]); try (simp only [rj_bm]); try (rw [hx13]); try (simp only [rj_bm]); try (rw [if_pos h15]); try rfl)⟩
theorem hSX11_drop : yX11_drop.cls ≠ "java/lang/invoke/MethodHandle" ∧ yX11_drop.cls ≠ "java/lang/invoke/VarHandle" ∧ (parseMethodDescriptor yX11_drop.desc).map (fun d => d.parameters.length) = some 1 := by decide +kernel
theorem hVX11_drop : yX11_drop.cls = RX11 ∧ yX11_drop.cls ≠ "java/lang/invoke/MethodHandle" ∧ yX11_drop.cls ≠ "java/lang/invoke/VarHandle" ∧ (parseMethodDescriptor yX11_drop.desc).map (fun d => d.parameters.length) = some 1 := by decide +kernel
theorem vX11_drop_11 : ∀ w ∈ u_ws RX11 TX11 6, w ∈ wsX11_drop := by decide +kernel
theorem kX11_drop_12 : Cond.fieldLink RX11 12 (TX11 0).1 (TX11 0).2.1 (TX11 0).2.2.1 ∈ wsX11_drop := by decide +kernel
theorem vX11_drop_5 : ∀ w ∈ u_ws RX5 TX5 8, w ∈ wsX11_drop := by decide +kernel
theorem kX11_drop_26 : Cond.fieldLink RX11 26 (TX5 2).1 (TX5 2).2.1 (TX5 2).2.2.1 ∈ wsX11_drop := by decide +kernel
def fX11_drop (μ : rj_M) (a0 : Int32) : Int32 ⊕ String := (rj_bx (fX11_needAct μ a0) (.inl (fX7_pleasing (mX11_beginChange μ) a0)))
def mX11_drop (μ : rj_M) (a0 : Int32) : rj_M := (rj_bm (fX11_needAct μ a0) (mX7_remove (mX11_beginChange μ) a0) μ)
def qX11_drop (μ : rj_M) (a0 : Int32) : Prop := (rq_bx (fX11_needAct μ a0) (qX11_beginChange μ ∧ True))
set_option maxHeartbeats 40000000 in
set_option maxRecDepth 100000 in
theorem sX11_drop {g : rj_G} {ω : rj_W} (hω : rj_ok ω) (μ : rj_M) (a0 : Int32)   (hq : qX11_drop μ a0) : rj_Sp g yX11_drop wsX11_drop (rj_rm 7 1) [.ref (ω.2.2 0), .int a0] ω μ (rj_D (rj_oi (fX11_drop μ a0)) ω (mX11_drop μ a0)) := by
  have hqa := hq
  unfold qX11_drop at hqa
  refine rj_of' (cc := cX11_drop) (nL := 3) (ret := (some .int)) (own := RX11) (l0 := [(0, .ref (ω.2.2 0)), (1, .int a0)]) rfl (by decide +kernel) rfl (Nat.le_of_ble_eq_true rfl) rfl ?_
  refine rj_aload_n 0 dX11_drop_0 rfl rfl ?_
  refine rj_iload_n 1 dX11_drop_1 rfl rfl ?_
  refine rj_cVx (rest := []) (sX11_needAct (g := g) (ω := ω) hω μ a0   ) gX11_drop_X11_needAct (rj_lt hω (k := 0) rfl) (rj_sh hω ly_0) rfl rfl hVX11_needAct ⟨Nat.le_of_ble_eq_true rfl, Nat.le_of_ble_eq_true rfl⟩ dX11_drop_2 rfl rfl rfl (Nat.le_of_ble_eq_true rfl) rfl (Nat.le_of_ble_eq_true rfl) (fun E hE2 => ?_) (fun hx1 => ?_)
  · exact ⟨(by unfold fX11_drop; try (rw [hE2]); try (simp only [rj_bx]); try rfl), rfl, (by unfold mX11_drop; try (rw [hE2]); try (simp only [rj_bm]); try rfl)⟩
  · have hq1 := hqa; rw [hx1] at hq1; simp only [rq_bx] at hq1
    refine rj_aload_n 0 dX11_drop_5 rfl rfl ?_
    refine rj_cV (rest := []) (sX11_beginChange (g := g) (ω := ω) hω μ   (hq1).1) gX11_drop_X11_beginChange (rj_lt hω (k := 0) rfl) (rj_sh hω ly_0) rfl rfl hVX11_beginChange ⟨Nat.le_of_ble_eq_true rfl, Nat.le_of_ble_eq_true rfl⟩ dX11_drop_6 rfl rfl rfl (Nat.le_of_ble_eq_true rfl) rfl (Nat.le_of_ble_eq_true rfl) rfl ?_
    refine rj_aload_n 0 dX11_drop_9 rfl rfl ?_
    refine rj_getR (C0 := RX11) (T := TX11) (N := 6) (j := 0) (r := 1) dX11_drop_10 rfl vX11_drop_11 rfl (rj_lt hω (k := 0) rfl) (rj_sh hω ly_0) (by decide) kX11_drop_12 rfl ?_
    refine rj_getR (C0 := RX5) (T := TX5) (N := 8) (j := 2) (r := 8) dX11_drop_13 rfl vX11_drop_5 rfl (rj_lt hω (k := 1) rfl) (rj_sh hω ly_1) (by decide) kX11_drop_26 rfl ?_
    refine rj_iload_n 1 dX11_drop_16 rfl rfl ?_
    refine rj_cV (rest := []) (sX7_pleasing (g := g) (ω := ω) hω (mX11_beginChange μ) a0   ) gX11_drop_X7_pleasing (rj_lt hω (k := 8) rfl) (rj_sh hω ly_8) rfl rfl hVX7_pleasing ⟨Nat.le_of_ble_eq_true rfl, Nat.le_of_ble_eq_true rfl⟩ dX11_drop_17 rfl rfl rfl (Nat.le_of_ble_eq_true rfl) rfl (Nat.le_of_ble_eq_true rfl) rfl ?_
    refine rj_istore_n (l' := [(2, .int (fX7_pleasing (mX11_beginChange μ) a0)), (0, .ref (ω.2.2 0)), (1, .int a0)]) dX11_drop_20 rfl (rj_bl rfl) rfl ?_
    refine rj_aload_n 1 dX11_drop_21 rfl rfl ?_
    refine rj_getR (C0 := RX11) (T := TX11) (N := 6) (j := 0) (r := 1) dX11_drop_22 rfl vX11_drop_11 rfl (rj_lt hω (k := 0) rfl) (rj_sh hω ly_0) (by decide) kX11_drop_12 rfl ?_
    refine rj_getR (C0 := RX5) (T := TX5) (N := 8) (j := 2) (r := 8) dX11_drop_25 rfl vX11_drop_5 rfl (rj_lt hω (k := 1) rfl) (rj_sh hω ly_1) (by decide) kX11_drop_26 rfl ?_
    refine rj_iload_n 2 dX11_drop_28 rfl rfl ?_
    refine rj_cV (rest := []) (sX7_remove (g := g) (ω := ω) hω (mX11_beginChange μ) a0   ) gX11_drop_X7_remove (rj_lt hω (k := 8) rfl) (rj_sh hω ly_8) rfl rfl hVX7_remove ⟨Nat.le_of_ble_eq_true rfl, Nat.le_of_ble_eq_true rfl⟩ dX11_drop_29 rfl rfl rfl (Nat.le_of_ble_eq_true rfl) rfl (Nat.le_of_ble_eq_true rfl) rfl ?_
    refine rj_iload_n 0 dX11_drop_32 rfl rfl ?_
    exact rj_iret dX11_drop_33 rfl (Nat.le_of_ble_eq_true rfl) (Nat.le_of_ble_eq_true rfl) ⟨(by unfold fX11_drop; try (rw [hx1]); try (simp only [rj_bx]); try rfl), rfl, (by unfold mX11_drop; try (rw [hx1]); try (simp only [rj_bm]); try rfl)⟩
theorem hSX11_wish : yX11_wish.cls ≠ "java/lang/invoke/MethodHandle" ∧ yX11_wish.cls ≠ "java/lang/invoke/VarHandle" ∧ (parseMethodDescriptor yX11_wish.desc).map (fun d => d.parameters.length) = some 3 := by decide +kernel
theorem hVX11_wish : yX11_wish.cls = RX11 ∧ yX11_wish.cls ≠ "java/lang/invoke/MethodHandle" ∧ yX11_wish.cls ≠ "java/lang/invoke/VarHandle" ∧ (parseMethodDescriptor yX11_wish.desc).map (fun d => d.parameters.length) = some 3 := by decide +kernel
theorem vX11_wish_11 : ∀ w ∈ u_ws RX11 TX11 6, w ∈ wsX11_wish := by decide +kernel
theorem kX11_wish_12 : Cond.fieldLink RX11 12 (TX11 0).1 (TX11 0).2.1 (TX11 0).2.2.1 ∈ wsX11_wish := by decide +kernel
theorem vX11_wish_5 : ∀ w ∈ u_ws RX5 TX5 8, w ∈ wsX11_wish := by decide +kernel
theorem kX11_wish_26 : Cond.fieldLink RX11 26 (TX5 2).1 (TX5 2).2.1 (TX5 2).2.2.1 ∈ wsX11_wish := by decide +kernel
theorem vX11_wish_7 : ∀ w ∈ u_ws RX7 TX7 8, w ∈ wsX11_wish := by decide +kernel
theorem kX11_wish_127 : Cond.fieldLink RX11 127 (TX7 5).1 (TX7 5).2.1 (TX7 5).2.2.1 ∈ wsX11_wish := by decide +kernel
def fX11_wish (μ : rj_M) (a0 : Int32) (a1 : Int32) (a2 : Int32) : Int32 ⊕ String := (rj_bx (fX11_needPlace μ a0 12) (rj_bx (fX11_needAct μ a1) (rj_bx (fX11_needRange μ a2 0 9) (.inl (fX11_replace (mX11_beginChange μ) 14 192 ((a0 * 16) + a1) a2)))))
def mX11_wish (μ : rj_M) (a0 : Int32) (a1 : Int32) (a2 : Int32) : rj_M := (rj_bm (fX11_needPlace μ a0 12) (rj_bm (fX11_needAct μ a1) (rj_bm (fX11_needRange μ a2 0 9) (mX11_replace (mX11_beginChange μ) 14 192 ((a0 * 16) + a1) a2) μ) μ) μ)
def qX11_wish (μ : rj_M) (a0 : Int32) (a1 : Int32) (a2 : Int32) : Prop := (rq_bx (fX11_needPlace μ a0 12) (rq_bx (fX11_needAct μ a1) (rq_bx (fX11_needRange μ a2 0 9) (qX11_beginChange μ ∧ True))))
set_option maxHeartbeats 40000000 in
set_option maxRecDepth 100000 in
theorem sX11_wish {g : rj_G} {ω : rj_W} (hω : rj_ok ω) (μ : rj_M) (a0 : Int32) (a1 : Int32) (a2 : Int32)   (hq : qX11_wish μ a0 a1 a2) : rj_Sp g yX11_wish wsX11_wish (rj_rm 7 3) [.ref (ω.2.2 0), .int a0, .int a1, .int a2] ω μ (rj_D (rj_oi (fX11_wish μ a0 a1 a2)) ω (mX11_wish μ a0 a1 a2)) := by
  have hqa := hq
  unfold qX11_wish at hqa
  refine rj_of' (cc := cX11_wish) (nL := 4) (ret := (some .int)) (own := RX11) (l0 := [(0, .ref (ω.2.2 0)), (1, .int a0), (2, .int a1), (3, .int a2)]) rfl (by decide +kernel) rfl (Nat.le_of_ble_eq_true rfl) rfl ?_
  refine rj_iload_n 1 dX11_wish_0 rfl rfl ?_
  refine rj_bipush (v := 12) dX11_wish_1 rfl (by decide) ?_
  refine rj_cSx (rest := []) (sX11_needPlace (g := g) (ω := ω) hω μ a0 12   ) gX11_wish_X11_needPlace rfl hSX11_needPlace ⟨Nat.le_of_ble_eq_true rfl, Nat.le_of_ble_eq_true rfl⟩ dX11_wish_3 rfl rfl rfl (Nat.le_of_ble_eq_true rfl) rfl (Nat.le_of_ble_eq_true rfl) (fun E hE2 => ?_) (fun hx1 => ?_)
  · exact ⟨(by unfold fX11_wish; try (rw [hE2]); try (simp only [rj_bx]); try rfl), rfl, (by unfold mX11_wish; try (rw [hE2]); try (simp only [rj_bm]); try rfl)⟩
  · have hq1 := hqa; rw [hx1] at hq1; simp only [rq_bx] at hq1
    refine rj_aload_n 0 dX11_wish_6 rfl rfl ?_
    refine rj_iload_n 2 dX11_wish_7 rfl rfl ?_
    refine rj_cVx (rest := []) (sX11_needAct (g := g) (ω := ω) hω μ a1   ) gX11_wish_X11_needAct (rj_lt hω (k := 0) rfl) (rj_sh hω ly_0) rfl rfl hVX11_needAct ⟨Nat.le_of_ble_eq_true rfl, Nat.le_of_ble_eq_true rfl⟩ dX11_wish_8 rfl rfl rfl (Nat.le_of_ble_eq_true rfl) rfl (Nat.le_of_ble_eq_true rfl) (fun E hE4 => ?_) (fun hx3 => ?_)
    · exact ⟨(by unfold fX11_wish; try (rw [hx1]); try (simp only [rj_bx]); try (rw [hE4]); try (simp only [rj_bx]); try rfl), rfl, (by unfold mX11_wish; try (rw [hx1]); try (simp only [rj_bm]); try (rw [hE4]); try (simp only [rj_bm]); try rfl)⟩
    · have hq2 := hq1; rw [hx3] at hq2; simp only [rq_bx] at hq2
      refine rj_iload_n 3 dX11_wish_11 rfl rfl ?_
      refine rj_iconst (v := 0) dX11_wish_12 rfl (by decide) ?_
      refine rj_bipush (v := 9) dX11_wish_13 rfl (by decide) ?_
      refine rj_cSx (rest := []) (sX11_needRange (g := g) (ω := ω) hω μ a2 0 9   ) gX11_wish_X11_needRange rfl hSX11_needRange ⟨Nat.le_of_ble_eq_true rfl, Nat.le_of_ble_eq_true rfl⟩ dX11_wish_15 rfl rfl rfl (Nat.le_of_ble_eq_true rfl) rfl (Nat.le_of_ble_eq_true rfl) (fun E hE6 => ?_) (fun hx5 => ?_)
      · exact ⟨(by unfold fX11_wish; try (rw [hx1]); try (simp only [rj_bx]); try (rw [hx3]); try (simp only [rj_bx]); try (rw [hE6]); try (simp only [rj_bx]); try rfl), rfl, (by unfold mX11_wish; try (rw [hx1]); try (simp only [rj_bm]); try (rw [hx3]); try (simp only [rj_bm]); try (rw [hE6]); try (simp only [rj_bm]); try rfl)⟩
      · have hq3 := hq2; rw [hx5] at hq3; simp only [rq_bx] at hq3
        refine rj_aload_n 0 dX11_wish_18 rfl rfl ?_
        refine rj_cV (rest := []) (sX11_beginChange (g := g) (ω := ω) hω μ   (hq3).1) gX11_wish_X11_beginChange (rj_lt hω (k := 0) rfl) (rj_sh hω ly_0) rfl rfl hVX11_beginChange ⟨Nat.le_of_ble_eq_true rfl, Nat.le_of_ble_eq_true rfl⟩ dX11_wish_19 rfl rfl rfl (Nat.le_of_ble_eq_true rfl) rfl (Nat.le_of_ble_eq_true rfl) rfl ?_
        refine rj_aload_n 0 dX11_wish_22 rfl rfl ?_
        refine rj_getR (C0 := RX11) (T := TX11) (N := 6) (j := 0) (r := 1) dX11_wish_23 rfl vX11_wish_11 rfl (rj_lt hω (k := 0) rfl) (rj_sh hω ly_0) (by decide) kX11_wish_12 rfl ?_
        refine rj_getR (C0 := RX5) (T := TX5) (N := 8) (j := 2) (r := 8) dX11_wish_26 rfl vX11_wish_5 rfl (rj_lt hω (k := 1) rfl) (rj_sh hω ly_1) (by decide) kX11_wish_26 rfl ?_
        refine rj_getR (C0 := RX7) (T := TX7) (N := 8) (j := 5) (r := 14) dX11_wish_29 rfl vX11_wish_7 rfl (rj_lt hω (k := 8) rfl) (rj_sh hω ly_8) (by decide) kX11_wish_127 rfl ?_
        refine rj_iload_n 1 dX11_wish_32 rfl rfl ?_
        refine rj_bipush (v := 16) dX11_wish_33 rfl (by decide) ?_
        refine rj_imul dX11_wish_35 rfl ?_
        refine rj_iload_n 2 dX11_wish_36 rfl rfl ?_
        refine rj_iadd dX11_wish_37 rfl ?_
        refine rj_iload_n 3 dX11_wish_38 rfl rfl ?_
        refine rj_cS (rest := []) (sX11_replace (g := g) (ω := ω) (mX11_beginChange μ) 14 192 ((a0 * 16) + a1) a2 (rj_lt hω (k := 14) rfl) (rj_sh hω ly_14) (rj_bl rfl)  ) gX11_wish_X11_replace rfl hSX11_replace ⟨Nat.le_of_ble_eq_true rfl, Nat.le_of_ble_eq_true rfl⟩ dX11_wish_39 rfl rfl rfl (Nat.le_of_ble_eq_true rfl) rfl (Nat.le_of_ble_eq_true rfl) rfl ?_
        exact rj_iret dX11_wish_42 rfl (Nat.le_of_ble_eq_true rfl) (Nat.le_of_ble_eq_true rfl) ⟨(by unfold fX11_wish; try (rw [hx1]); try (simp only [rj_bx]); try (rw [hx3]); try (simp only [rj_bx]); try (rw [hx5]); try (simp only [rj_bx]); try rfl), rfl, (by unfold mX11_wish; try (rw [hx1]); try (simp only [rj_bm]); try (rw [hx3]); try (simp only [rj_bm]); try (rw [hx5]); try (simp only [rj_bm]); try rfl)⟩
theorem hSX11_setGate : yX11_setGate.cls ≠ "java/lang/invoke/MethodHandle" ∧ yX11_setGate.cls ≠ "java/lang/invoke/VarHandle" ∧ (parseMethodDescriptor yX11_setGate.desc).map (fun d => d.parameters.length) = some 2 := by decide +kernel
theorem hVX11_setGate : yX11_setGate.cls = RX11 ∧ yX11_setGate.cls ≠ "java/lang/invoke/MethodHandle" ∧ yX11_setGate.cls ≠ "java/lang/invoke/VarHandle" ∧ (parseMethodDescriptor yX11_setGate.desc).map (fun d => d.parameters.length) = some 2 := by decide +kernel
theorem vX11_setGate_11 : ∀ w ∈ u_ws RX11 TX11 6, w ∈ wsX11_setGate := by decide +kernel
theorem kX11_setGate_12 : Cond.fieldLink RX11 12 (TX11 0).1 (TX11 0).2.1 (TX11 0).2.2.1 ∈ wsX11_setGate := by decide +kernel
theorem vX11_setGate_5 : ∀ w ∈ u_ws RX5 TX5 8, w ∈ wsX11_setGate := by decide +kernel
theorem kX11_setGate_135 : Cond.fieldLink RX11 135 (TX5 3).1 (TX5 3).2.1 (TX5 3).2.2.1 ∈ wsX11_setGate := by decide +kernel
theorem vX11_setGate_3 : ∀ w ∈ u_ws RX3 TX3 3, w ∈ wsX11_setGate := by decide +kernel
theorem kX11_setGate_139 : Cond.fieldLink RX11 139 (TX3 0).1 (TX3 0).2.1 (TX3 0).2.2.1 ∈ wsX11_setGate := by decide +kernel
def fX11_setGate (μ : rj_M) (a0 : Int32) (a1 : Int32) : Int32 ⊕ String := (rj_bx (fX11_needPlace μ a0 3) (rj_bx (fX11_needRange μ a1 0 50) (.inl (fX11_replace (mX11_beginChange μ) 18 3 a0 a1))))
def mX11_setGate (μ : rj_M) (a0 : Int32) (a1 : Int32) : rj_M := (rj_bm (fX11_needPlace μ a0 3) (rj_bm (fX11_needRange μ a1 0 50) (mX11_replace (mX11_beginChange μ) 18 3 a0 a1) μ) μ)
def qX11_setGate (μ : rj_M) (a0 : Int32) (a1 : Int32) : Prop := (rq_bx (fX11_needPlace μ a0 3) (rq_bx (fX11_needRange μ a1 0 50) (qX11_beginChange μ ∧ True)))
set_option maxHeartbeats 40000000 in
set_option maxRecDepth 100000 in
theorem sX11_setGate {g : rj_G} {ω : rj_W} (hω : rj_ok ω) (μ : rj_M) (a0 : Int32) (a1 : Int32)   (hq : qX11_setGate μ a0 a1) : rj_Sp g yX11_setGate wsX11_setGate (rj_rm 7 2) [.ref (ω.2.2 0), .int a0, .int a1] ω μ (rj_D (rj_oi (fX11_setGate μ a0 a1)) ω (mX11_setGate μ a0 a1)) := by
  have hqa := hq
  unfold qX11_setGate at hqa
  refine rj_of' (cc := cX11_setGate) (nL := 3) (ret := (some .int)) (own := RX11) (l0 := [(0, .ref (ω.2.2 0)), (1, .int a0), (2, .int a1)]) rfl (by decide +kernel) rfl (Nat.le_of_ble_eq_true rfl) rfl ?_
  refine rj_iload_n 1 dX11_setGate_0 rfl rfl ?_
  refine rj_iconst (v := 3) dX11_setGate_1 rfl (by decide) ?_
  refine rj_cSx (rest := []) (sX11_needPlace (g := g) (ω := ω) hω μ a0 3   ) gX11_setGate_X11_needPlace rfl hSX11_needPlace ⟨Nat.le_of_ble_eq_true rfl, Nat.le_of_ble_eq_true rfl⟩ dX11_setGate_2 rfl rfl rfl (Nat.le_of_ble_eq_true rfl) rfl (Nat.le_of_ble_eq_true rfl) (fun E hE2 => ?_) (fun hx1 => ?_)
  · exact ⟨(by unfold fX11_setGate; try (rw [hE2]); try (simp only [rj_bx]); try rfl), rfl, (by unfold mX11_setGate; try (rw [hE2]); try (simp only [rj_bm]); try rfl)⟩
  · have hq1 := hqa; rw [hx1] at hq1; simp only [rq_bx] at hq1
    refine rj_iload_n 2 dX11_setGate_5 rfl rfl ?_
    refine rj_iconst (v := 0) dX11_setGate_6 rfl (by decide) ?_
    refine rj_bipush (v := 50) dX11_setGate_7 rfl (by decide) ?_
    refine rj_cSx (rest := []) (sX11_needRange (g := g) (ω := ω) hω μ a1 0 50   ) gX11_setGate_X11_needRange rfl hSX11_needRange ⟨Nat.le_of_ble_eq_true rfl, Nat.le_of_ble_eq_true rfl⟩ dX11_setGate_9 rfl rfl rfl (Nat.le_of_ble_eq_true rfl) rfl (Nat.le_of_ble_eq_true rfl) (fun E hE4 => ?_) (fun hx3 => ?_)
    · exact ⟨(by unfold fX11_setGate; try (rw [hx1]); try (simp only [rj_bx]); try (rw [hE4]); try (simp only [rj_bx]); try rfl), rfl, (by unfold mX11_setGate; try (rw [hx1]); try (simp only [rj_bm]); try (rw [hE4]); try (simp only [rj_bm]); try rfl)⟩
    · have hq2 := hq1; rw [hx3] at hq2; simp only [rq_bx] at hq2
      refine rj_aload_n 0 dX11_setGate_12 rfl rfl ?_
      refine rj_cV (rest := []) (sX11_beginChange (g := g) (ω := ω) hω μ   (hq2).1) gX11_setGate_X11_beginChange (rj_lt hω (k := 0) rfl) (rj_sh hω ly_0) rfl rfl hVX11_beginChange ⟨Nat.le_of_ble_eq_true rfl, Nat.le_of_ble_eq_true rfl⟩ dX11_setGate_13 rfl rfl rfl (Nat.le_of_ble_eq_true rfl) rfl (Nat.le_of_ble_eq_true rfl) rfl ?_
      refine rj_aload_n 0 dX11_setGate_16 rfl rfl ?_
      refine rj_getR (C0 := RX11) (T := TX11) (N := 6) (j := 0) (r := 1) dX11_setGate_17 rfl vX11_setGate_11 rfl (rj_lt hω (k := 0) rfl) (rj_sh hω ly_0) (by decide) kX11_setGate_12 rfl ?_
      refine rj_getR (C0 := RX5) (T := TX5) (N := 8) (j := 3) (r := 17) dX11_setGate_20 rfl vX11_setGate_5 rfl (rj_lt hω (k := 1) rfl) (rj_sh hω ly_1) (by decide) kX11_setGate_135 rfl ?_
      refine rj_getR (C0 := RX3) (T := TX3) (N := 3) (j := 0) (r := 18) dX11_setGate_23 rfl vX11_setGate_3 rfl (rj_lt hω (k := 17) rfl) (rj_sh hω ly_17) (by decide) kX11_setGate_139 rfl ?_
      refine rj_iload_n 1 dX11_setGate_26 rfl rfl ?_
      refine rj_iload_n 2 dX11_setGate_27 rfl rfl ?_
      refine rj_cS (rest := []) (sX11_replace (g := g) (ω := ω) (mX11_beginChange μ) 18 3 a0 a1 (rj_lt hω (k := 18) rfl) (rj_sh hω ly_18) (rj_bl rfl)  ) gX11_setGate_X11_replace rfl hSX11_replace ⟨Nat.le_of_ble_eq_true rfl, Nat.le_of_ble_eq_true rfl⟩ dX11_setGate_28 rfl rfl rfl (Nat.le_of_ble_eq_true rfl) rfl (Nat.le_of_ble_eq_true rfl) rfl ?_
      exact rj_iret dX11_setGate_31 rfl (Nat.le_of_ble_eq_true rfl) (Nat.le_of_ble_eq_true rfl) ⟨(by unfold fX11_setGate; try (rw [hx1]); try (simp only [rj_bx]); try (rw [hx3]); try (simp only [rj_bx]); try rfl), rfl, (by unfold mX11_setGate; try (rw [hx1]); try (simp only [rj_bm]); try (rw [hx3]); try (simp only [rj_bm]); try rfl)⟩
theorem hSX11_setReach : yX11_setReach.cls ≠ "java/lang/invoke/MethodHandle" ∧ yX11_setReach.cls ≠ "java/lang/invoke/VarHandle" ∧ (parseMethodDescriptor yX11_setReach.desc).map (fun d => d.parameters.length) = some 3 := by decide +kernel
theorem hVX11_setReach : yX11_setReach.cls = RX11 ∧ yX11_setReach.cls ≠ "java/lang/invoke/MethodHandle" ∧ yX11_setReach.cls ≠ "java/lang/invoke/VarHandle" ∧ (parseMethodDescriptor yX11_setReach.desc).map (fun d => d.parameters.length) = some 3 := by decide +kernel
theorem vX11_setReach_11 : ∀ w ∈ u_ws RX11 TX11 6, w ∈ wsX11_setReach := by decide +kernel
theorem kX11_setReach_12 : Cond.fieldLink RX11 12 (TX11 0).1 (TX11 0).2.1 (TX11 0).2.2.1 ∈ wsX11_setReach := by decide +kernel
theorem vX11_setReach_5 : ∀ w ∈ u_ws RX5 TX5 8, w ∈ wsX11_setReach := by decide +kernel
theorem kX11_setReach_135 : Cond.fieldLink RX11 135 (TX5 3).1 (TX5 3).2.1 (TX5 3).2.2.1 ∈ wsX11_setReach := by decide +kernel
theorem vX11_setReach_3 : ∀ w ∈ u_ws RX3 TX3 3, w ∈ wsX11_setReach := by decide +kernel
theorem kX11_setReach_144 : Cond.fieldLink RX11 144 (TX3 1).1 (TX3 1).2.1 (TX3 1).2.2.1 ∈ wsX11_setReach := by decide +kernel
def fX11_setReach (μ : rj_M) (a0 : Int32) (a1 : Int32) (a2 : Int32) : Int32 ⊕ String := (rj_bx (fX11_needPlace μ a0 3) (rj_bx (fX11_needPlace μ a1 4) (rj_bx (fX11_needRange μ a2 1 30) (.inl (fX11_replace (mX11_beginChange μ) 19 12 ((a0 * 4) + a1) a2)))))
def mX11_setReach (μ : rj_M) (a0 : Int32) (a1 : Int32) (a2 : Int32) : rj_M := (rj_bm (fX11_needPlace μ a0 3) (rj_bm (fX11_needPlace μ a1 4) (rj_bm (fX11_needRange μ a2 1 30) (mX11_replace (mX11_beginChange μ) 19 12 ((a0 * 4) + a1) a2) μ) μ) μ)
def qX11_setReach (μ : rj_M) (a0 : Int32) (a1 : Int32) (a2 : Int32) : Prop := (rq_bx (fX11_needPlace μ a0 3) (rq_bx (fX11_needPlace μ a1 4) (rq_bx (fX11_needRange μ a2 1 30) (qX11_beginChange μ ∧ True))))
set_option maxHeartbeats 40000000 in
set_option maxRecDepth 100000 in
theorem sX11_setReach {g : rj_G} {ω : rj_W} (hω : rj_ok ω) (μ : rj_M) (a0 : Int32) (a1 : Int32) (a2 : Int32)   (hq : qX11_setReach μ a0 a1 a2) : rj_Sp g yX11_setReach wsX11_setReach (rj_rm 7 3) [.ref (ω.2.2 0), .int a0, .int a1, .int a2] ω μ (rj_D (rj_oi (fX11_setReach μ a0 a1 a2)) ω (mX11_setReach μ a0 a1 a2)) := by
  have hqa := hq
  unfold qX11_setReach at hqa
  refine rj_of' (cc := cX11_setReach) (nL := 4) (ret := (some .int)) (own := RX11) (l0 := [(0, .ref (ω.2.2 0)), (1, .int a0), (2, .int a1), (3, .int a2)]) rfl (by decide +kernel) rfl (Nat.le_of_ble_eq_true rfl) rfl ?_
  refine rj_iload_n 1 dX11_setReach_0 rfl rfl ?_
  refine rj_iconst (v := 3) dX11_setReach_1 rfl (by decide) ?_
  refine rj_cSx (rest := []) (sX11_needPlace (g := g) (ω := ω) hω μ a0 3   ) gX11_setReach_X11_needPlace rfl hSX11_needPlace ⟨Nat.le_of_ble_eq_true rfl, Nat.le_of_ble_eq_true rfl⟩ dX11_setReach_2 rfl rfl rfl (Nat.le_of_ble_eq_true rfl) rfl (Nat.le_of_ble_eq_true rfl) (fun E hE2 => ?_) (fun hx1 => ?_)
  · exact ⟨(by unfold fX11_setReach; try (rw [hE2]); try (simp only [rj_bx]); try rfl), rfl, (by unfold mX11_setReach; try (rw [hE2]); try (simp only [rj_bm]); try rfl)⟩
  · have hq1 := hqa; rw [hx1] at hq1; simp only [rq_bx] at hq1
    refine rj_iload_n 2 dX11_setReach_5 rfl rfl ?_
    refine rj_iconst (v := 4) dX11_setReach_6 rfl (by decide) ?_
    refine rj_cSx (rest := []) (sX11_needPlace (g := g) (ω := ω) hω μ a1 4   ) gX11_setReach_X11_needPlace rfl hSX11_needPlace ⟨Nat.le_of_ble_eq_true rfl, Nat.le_of_ble_eq_true rfl⟩ dX11_setReach_7 rfl rfl rfl (Nat.le_of_ble_eq_true rfl) rfl (Nat.le_of_ble_eq_true rfl) (fun E hE4 => ?_) (fun hx3 => ?_)
    · exact ⟨(by unfold fX11_setReach; try (rw [hx1]); try (simp only [rj_bx]); try (rw [hE4]); try (simp only [rj_bx]); try rfl), rfl, (by unfold mX11_setReach; try (rw [hx1]); try (simp only [rj_bm]); try (rw [hE4]); try (simp only [rj_bm]); try rfl)⟩
    · have hq2 := hq1; rw [hx3] at hq2; simp only [rq_bx] at hq2
      refine rj_iload_n 3 dX11_setReach_10 rfl rfl ?_
      refine rj_iconst (v := 1) dX11_setReach_11 rfl (by decide) ?_
      refine rj_bipush (v := 30) dX11_setReach_12 rfl (by decide) ?_
      refine rj_cSx (rest := []) (sX11_needRange (g := g) (ω := ω) hω μ a2 1 30   ) gX11_setReach_X11_needRange rfl hSX11_needRange ⟨Nat.le_of_ble_eq_true rfl, Nat.le_of_ble_eq_true rfl⟩ dX11_setReach_14 rfl rfl rfl (Nat.le_of_ble_eq_true rfl) rfl (Nat.le_of_ble_eq_true rfl) (fun E hE6 => ?_) (fun hx5 => ?_)
      · exact ⟨(by unfold fX11_setReach; try (rw [hx1]); try (simp only [rj_bx]); try (rw [hx3]); try (simp only [rj_bx]); try (rw [hE6]); try (simp only [rj_bx]); try rfl), rfl, (by unfold mX11_setReach; try (rw [hx1]); try (simp only [rj_bm]); try (rw [hx3]); try (simp only [rj_bm]); try (rw [hE6]); try (simp only [rj_bm]); try rfl)⟩
      · have hq3 := hq2; rw [hx5] at hq3; simp only [rq_bx] at hq3
        refine rj_aload_n 0 dX11_setReach_17 rfl rfl ?_
        refine rj_cV (rest := []) (sX11_beginChange (g := g) (ω := ω) hω μ   (hq3).1) gX11_setReach_X11_beginChange (rj_lt hω (k := 0) rfl) (rj_sh hω ly_0) rfl rfl hVX11_beginChange ⟨Nat.le_of_ble_eq_true rfl, Nat.le_of_ble_eq_true rfl⟩ dX11_setReach_18 rfl rfl rfl (Nat.le_of_ble_eq_true rfl) rfl (Nat.le_of_ble_eq_true rfl) rfl ?_
        refine rj_aload_n 0 dX11_setReach_21 rfl rfl ?_
        refine rj_getR (C0 := RX11) (T := TX11) (N := 6) (j := 0) (r := 1) dX11_setReach_22 rfl vX11_setReach_11 rfl (rj_lt hω (k := 0) rfl) (rj_sh hω ly_0) (by decide) kX11_setReach_12 rfl ?_
        refine rj_getR (C0 := RX5) (T := TX5) (N := 8) (j := 3) (r := 17) dX11_setReach_25 rfl vX11_setReach_5 rfl (rj_lt hω (k := 1) rfl) (rj_sh hω ly_1) (by decide) kX11_setReach_135 rfl ?_
        refine rj_getR (C0 := RX3) (T := TX3) (N := 3) (j := 1) (r := 19) dX11_setReach_28 rfl vX11_setReach_3 rfl (rj_lt hω (k := 17) rfl) (rj_sh hω ly_17) (by decide) kX11_setReach_144 rfl ?_
        refine rj_iload_n 1 dX11_setReach_31 rfl rfl ?_
        refine rj_iconst (v := 4) dX11_setReach_32 rfl (by decide) ?_
        refine rj_imul dX11_setReach_33 rfl ?_
        refine rj_iload_n 2 dX11_setReach_34 rfl rfl ?_
        refine rj_iadd dX11_setReach_35 rfl ?_
        refine rj_iload_n 3 dX11_setReach_36 rfl rfl ?_
        refine rj_cS (rest := []) (sX11_replace (g := g) (ω := ω) (mX11_beginChange μ) 19 12 ((a0 * 4) + a1) a2 (rj_lt hω (k := 19) rfl) (rj_sh hω ly_19) (rj_bl rfl)  ) gX11_setReach_X11_replace rfl hSX11_replace ⟨Nat.le_of_ble_eq_true rfl, Nat.le_of_ble_eq_true rfl⟩ dX11_setReach_37 rfl rfl rfl (Nat.le_of_ble_eq_true rfl) rfl (Nat.le_of_ble_eq_true rfl) rfl ?_
        exact rj_iret dX11_setReach_40 rfl (Nat.le_of_ble_eq_true rfl) (Nat.le_of_ble_eq_true rfl) ⟨(by unfold fX11_setReach; try (rw [hx1]); try (simp only [rj_bx]); try (rw [hx3]); try (simp only [rj_bx]); try (rw [hx5]); try (simp only [rj_bx]); try rfl), rfl, (by unfold mX11_setReach; try (rw [hx1]); try (simp only [rj_bm]); try (rw [hx3]); try (simp only [rj_bm]); try (rw [hx5]); try (simp only [rj_bm]); try rfl)⟩
theorem hSX11_setCrowd : yX11_setCrowd.cls ≠ "java/lang/invoke/MethodHandle" ∧ yX11_setCrowd.cls ≠ "java/lang/invoke/VarHandle" ∧ (parseMethodDescriptor yX11_setCrowd.desc).map (fun d => d.parameters.length) = some 2 := by decide +kernel
theorem hVX11_setCrowd : yX11_setCrowd.cls = RX11 ∧ yX11_setCrowd.cls ≠ "java/lang/invoke/MethodHandle" ∧ yX11_setCrowd.cls ≠ "java/lang/invoke/VarHandle" ∧ (parseMethodDescriptor yX11_setCrowd.desc).map (fun d => d.parameters.length) = some 2 := by decide +kernel
theorem vX11_setCrowd_11 : ∀ w ∈ u_ws RX11 TX11 6, w ∈ wsX11_setCrowd := by decide +kernel
theorem kX11_setCrowd_12 : Cond.fieldLink RX11 12 (TX11 0).1 (TX11 0).2.1 (TX11 0).2.2.1 ∈ wsX11_setCrowd := by decide +kernel
theorem vX11_setCrowd_5 : ∀ w ∈ u_ws RX5 TX5 8, w ∈ wsX11_setCrowd := by decide +kernel
theorem kX11_setCrowd_135 : Cond.fieldLink RX11 135 (TX5 3).1 (TX5 3).2.1 (TX5 3).2.2.1 ∈ wsX11_setCrowd := by decide +kernel
theorem vX11_setCrowd_3 : ∀ w ∈ u_ws RX3 TX3 3, w ∈ wsX11_setCrowd := by decide +kernel
theorem kX11_setCrowd_147 : Cond.fieldLink RX11 147 (TX3 2).1 (TX3 2).2.1 (TX3 2).2.2.1 ∈ wsX11_setCrowd := by decide +kernel
def fX11_setCrowd (μ : rj_M) (a0 : Int32) (a1 : Int32) : Int32 ⊕ String := (rj_bx (fX11_needPlace μ a0 4) (rj_bx (fX11_needRange μ a1 0 2000) (.inl (fX11_replace (mX11_beginChange μ) 20 4 a0 a1))))
def mX11_setCrowd (μ : rj_M) (a0 : Int32) (a1 : Int32) : rj_M := (rj_bm (fX11_needPlace μ a0 4) (rj_bm (fX11_needRange μ a1 0 2000) (mX11_replace (mX11_beginChange μ) 20 4 a0 a1) μ) μ)
def qX11_setCrowd (μ : rj_M) (a0 : Int32) (a1 : Int32) : Prop := (rq_bx (fX11_needPlace μ a0 4) (rq_bx (fX11_needRange μ a1 0 2000) (qX11_beginChange μ ∧ True)))
set_option maxHeartbeats 40000000 in
set_option maxRecDepth 100000 in
theorem sX11_setCrowd {g : rj_G} {ω : rj_W} (hω : rj_ok ω) (μ : rj_M) (a0 : Int32) (a1 : Int32)   (hq : qX11_setCrowd μ a0 a1) : rj_Sp g yX11_setCrowd wsX11_setCrowd (rj_rm 7 2) [.ref (ω.2.2 0), .int a0, .int a1] ω μ (rj_D (rj_oi (fX11_setCrowd μ a0 a1)) ω (mX11_setCrowd μ a0 a1)) := by
  have hqa := hq
  unfold qX11_setCrowd at hqa
  refine rj_of' (cc := cX11_setCrowd) (nL := 3) (ret := (some .int)) (own := RX11) (l0 := [(0, .ref (ω.2.2 0)), (1, .int a0), (2, .int a1)]) rfl (by decide +kernel) rfl (Nat.le_of_ble_eq_true rfl) rfl ?_
  refine rj_iload_n 1 dX11_setCrowd_0 rfl rfl ?_
  refine rj_iconst (v := 4) dX11_setCrowd_1 rfl (by decide) ?_
  refine rj_cSx (rest := []) (sX11_needPlace (g := g) (ω := ω) hω μ a0 4   ) gX11_setCrowd_X11_needPlace rfl hSX11_needPlace ⟨Nat.le_of_ble_eq_true rfl, Nat.le_of_ble_eq_true rfl⟩ dX11_setCrowd_2 rfl rfl rfl (Nat.le_of_ble_eq_true rfl) rfl (Nat.le_of_ble_eq_true rfl) (fun E hE2 => ?_) (fun hx1 => ?_)
  · exact ⟨(by unfold fX11_setCrowd; try (rw [hE2]); try (simp only [rj_bx]); try rfl), rfl, (by unfold mX11_setCrowd; try (rw [hE2]); try (simp only [rj_bm]); try rfl)⟩
  · have hq1 := hqa; rw [hx1] at hq1; simp only [rq_bx] at hq1
    refine rj_iload_n 2 dX11_setCrowd_5 rfl rfl ?_
    refine rj_iconst (v := 0) dX11_setCrowd_6 rfl (by decide) ?_
    refine rj_sipush (v := 2000) dX11_setCrowd_7 rfl (by decide) ?_
    refine rj_cSx (rest := []) (sX11_needRange (g := g) (ω := ω) hω μ a1 0 2000   ) gX11_setCrowd_X11_needRange rfl hSX11_needRange ⟨Nat.le_of_ble_eq_true rfl, Nat.le_of_ble_eq_true rfl⟩ dX11_setCrowd_10 rfl rfl rfl (Nat.le_of_ble_eq_true rfl) rfl (Nat.le_of_ble_eq_true rfl) (fun E hE4 => ?_) (fun hx3 => ?_)
    · exact ⟨(by unfold fX11_setCrowd; try (rw [hx1]); try (simp only [rj_bx]); try (rw [hE4]); try (simp only [rj_bx]); try rfl), rfl, (by unfold mX11_setCrowd; try (rw [hx1]); try (simp only [rj_bm]); try (rw [hE4]); try (simp only [rj_bm]); try rfl)⟩
    · have hq2 := hq1; rw [hx3] at hq2; simp only [rq_bx] at hq2
      refine rj_aload_n 0 dX11_setCrowd_13 rfl rfl ?_
      refine rj_cV (rest := []) (sX11_beginChange (g := g) (ω := ω) hω μ   (hq2).1) gX11_setCrowd_X11_beginChange (rj_lt hω (k := 0) rfl) (rj_sh hω ly_0) rfl rfl hVX11_beginChange ⟨Nat.le_of_ble_eq_true rfl, Nat.le_of_ble_eq_true rfl⟩ dX11_setCrowd_14 rfl rfl rfl (Nat.le_of_ble_eq_true rfl) rfl (Nat.le_of_ble_eq_true rfl) rfl ?_
      refine rj_aload_n 0 dX11_setCrowd_17 rfl rfl ?_
      refine rj_getR (C0 := RX11) (T := TX11) (N := 6) (j := 0) (r := 1) dX11_setCrowd_18 rfl vX11_setCrowd_11 rfl (rj_lt hω (k := 0) rfl) (rj_sh hω ly_0) (by decide) kX11_setCrowd_12 rfl ?_
      refine rj_getR (C0 := RX5) (T := TX5) (N := 8) (j := 3) (r := 17) dX11_setCrowd_21 rfl vX11_setCrowd_5 rfl (rj_lt hω (k := 1) rfl) (rj_sh hω ly_1) (by decide) kX11_setCrowd_135 rfl ?_
      refine rj_getR (C0 := RX3) (T := TX3) (N := 3) (j := 2) (r := 20) dX11_setCrowd_24 rfl vX11_setCrowd_3 rfl (rj_lt hω (k := 17) rfl) (rj_sh hω ly_17) (by decide) kX11_setCrowd_147 rfl ?_
      refine rj_iload_n 1 dX11_setCrowd_27 rfl rfl ?_
      refine rj_iload_n 2 dX11_setCrowd_28 rfl rfl ?_
      refine rj_cS (rest := []) (sX11_replace (g := g) (ω := ω) (mX11_beginChange μ) 20 4 a0 a1 (rj_lt hω (k := 20) rfl) (rj_sh hω ly_20) (rj_bl rfl)  ) gX11_setCrowd_X11_replace rfl hSX11_replace ⟨Nat.le_of_ble_eq_true rfl, Nat.le_of_ble_eq_true rfl⟩ dX11_setCrowd_29 rfl rfl rfl (Nat.le_of_ble_eq_true rfl) rfl (Nat.le_of_ble_eq_true rfl) rfl ?_
      exact rj_iret dX11_setCrowd_32 rfl (Nat.le_of_ble_eq_true rfl) (Nat.le_of_ble_eq_true rfl) ⟨(by unfold fX11_setCrowd; try (rw [hx1]); try (simp only [rj_bx]); try (rw [hx3]); try (simp only [rj_bx]); try rfl), rfl, (by unfold mX11_setCrowd; try (rw [hx1]); try (simp only [rj_bm]); try (rw [hx3]); try (simp only [rj_bm]); try rfl)⟩
theorem hSX11_setServing : yX11_setServing.cls ≠ "java/lang/invoke/MethodHandle" ∧ yX11_setServing.cls ≠ "java/lang/invoke/VarHandle" ∧ (parseMethodDescriptor yX11_setServing.desc).map (fun d => d.parameters.length) = some 1 := by decide +kernel
theorem hVX11_setServing : yX11_setServing.cls = RX11 ∧ yX11_setServing.cls ≠ "java/lang/invoke/MethodHandle" ∧ yX11_setServing.cls ≠ "java/lang/invoke/VarHandle" ∧ (parseMethodDescriptor yX11_setServing.desc).map (fun d => d.parameters.length) = some 1 := by decide +kernel
theorem vX11_setServing_11 : ∀ w ∈ u_ws RX11 TX11 6, w ∈ wsX11_setServing := by decide +kernel
theorem kX11_setServing_12 : Cond.fieldLink RX11 12 (TX11 0).1 (TX11 0).2.1 (TX11 0).2.2.1 ∈ wsX11_setServing := by decide +kernel
theorem vX11_setServing_5 : ∀ w ∈ u_ws RX5 TX5 8, w ∈ wsX11_setServing := by decide +kernel
theorem kX11_setServing_150 : Cond.fieldLink RX11 150 (TX5 4).1 (TX5 4).2.1 (TX5 4).2.2.1 ∈ wsX11_setServing := by decide +kernel
theorem vX11_setServing_0 : ∀ w ∈ u_ws RX0 TX0 7, w ∈ wsX11_setServing := by decide +kernel
theorem kX11_setServing_154 : Cond.fieldLink RX11 154 (TX0 5).1 (TX0 5).2.1 (TX0 5).2.2.1 ∈ wsX11_setServing := by decide +kernel
def fX11_setServing (μ : rj_M) (a0 : Int32) : Int32 ⊕ String := (rj_bx (fX11_needRange μ a0 1 10) (.inl ((mX11_beginChange μ).1 21 5)))
def mX11_setServing (μ : rj_M) (a0 : Int32) : rj_M := (rj_bm (fX11_needRange μ a0 1 10) (rj_pi (mX11_beginChange μ) 21 5 a0) μ)
def qX11_setServing (μ : rj_M) (a0 : Int32) : Prop := (rq_bx (fX11_needRange μ a0 1 10) (qX11_beginChange μ ∧ True))
set_option maxHeartbeats 40000000 in
set_option maxRecDepth 100000 in
theorem sX11_setServing {g : rj_G} {ω : rj_W} (hω : rj_ok ω) (μ : rj_M) (a0 : Int32)   (hq : qX11_setServing μ a0) : rj_Sp g yX11_setServing wsX11_setServing (rj_rm 7 1) [.ref (ω.2.2 0), .int a0] ω μ (rj_D (rj_oi (fX11_setServing μ a0)) ω (mX11_setServing μ a0)) := by
  have hqa := hq
  unfold qX11_setServing at hqa
  refine rj_of' (cc := cX11_setServing) (nL := 3) (ret := (some .int)) (own := RX11) (l0 := [(0, .ref (ω.2.2 0)), (1, .int a0)]) rfl (by decide +kernel) rfl (Nat.le_of_ble_eq_true rfl) rfl ?_
  refine rj_iload_n 1 dX11_setServing_0 rfl rfl ?_
  refine rj_iconst (v := 1) dX11_setServing_1 rfl (by decide) ?_
  refine rj_bipush (v := 10) dX11_setServing_2 rfl (by decide) ?_
  refine rj_cSx (rest := []) (sX11_needRange (g := g) (ω := ω) hω μ a0 1 10   ) gX11_setServing_X11_needRange rfl hSX11_needRange ⟨Nat.le_of_ble_eq_true rfl, Nat.le_of_ble_eq_true rfl⟩ dX11_setServing_4 rfl rfl rfl (Nat.le_of_ble_eq_true rfl) rfl (Nat.le_of_ble_eq_true rfl) (fun E hE2 => ?_) (fun hx1 => ?_)
  · exact ⟨(by unfold fX11_setServing; try (rw [hE2]); try (simp only [rj_bx]); try rfl), rfl, (by unfold mX11_setServing; try (rw [hE2]); try (simp only [rj_bm]); try rfl)⟩
  · have hq1 := hqa; rw [hx1] at hq1; simp only [rq_bx] at hq1
    refine rj_aload_n 0 dX11_setServing_7 rfl rfl ?_
    refine rj_cV (rest := []) (sX11_beginChange (g := g) (ω := ω) hω μ   (hq1).1) gX11_setServing_X11_beginChange (rj_lt hω (k := 0) rfl) (rj_sh hω ly_0) rfl rfl hVX11_beginChange ⟨Nat.le_of_ble_eq_true rfl, Nat.le_of_ble_eq_true rfl⟩ dX11_setServing_8 rfl rfl rfl (Nat.le_of_ble_eq_true rfl) rfl (Nat.le_of_ble_eq_true rfl) rfl ?_
    refine rj_aload_n 0 dX11_setServing_11 rfl rfl ?_
    refine rj_getR (C0 := RX11) (T := TX11) (N := 6) (j := 0) (r := 1) dX11_setServing_12 rfl vX11_setServing_11 rfl (rj_lt hω (k := 0) rfl) (rj_sh hω ly_0) (by decide) kX11_setServing_12 rfl ?_
    refine rj_getR (C0 := RX5) (T := TX5) (N := 8) (j := 4) (r := 21) dX11_setServing_15 rfl vX11_setServing_5 rfl (rj_lt hω (k := 1) rfl) (rj_sh hω ly_1) (by decide) kX11_setServing_150 rfl ?_
    refine rj_getI (C0 := RX0) (T := TX0) (N := 7) (j := 5) dX11_setServing_18 rfl vX11_setServing_0 rfl (rj_lt hω (k := 21) rfl) (rj_sh hω ly_21) (by decide) kX11_setServing_154 rfl ?_
    refine rj_istore_n (l' := [(2, .int ((mX11_beginChange μ).1 21 5)), (0, .ref (ω.2.2 0)), (1, .int a0)]) dX11_setServing_21 rfl (rj_bl rfl) rfl ?_
    refine rj_aload_n 1 dX11_setServing_22 rfl rfl ?_
    refine rj_getR (C0 := RX11) (T := TX11) (N := 6) (j := 0) (r := 1) dX11_setServing_23 rfl vX11_setServing_11 rfl (rj_lt hω (k := 0) rfl) (rj_sh hω ly_0) (by decide) kX11_setServing_12 rfl ?_
    refine rj_getR (C0 := RX5) (T := TX5) (N := 8) (j := 4) (r := 21) dX11_setServing_26 rfl vX11_setServing_5 rfl (rj_lt hω (k := 1) rfl) (rj_sh hω ly_1) (by decide) kX11_setServing_150 rfl ?_
    refine rj_iload_n 2 dX11_setServing_29 rfl rfl ?_
    refine rj_putI (C0 := RX0) (T := TX0) (N := 7) (j := 5) dX11_setServing_30 rfl vX11_setServing_0 rfl (rj_lt hω (k := 21) rfl) (rj_sh hω ly_21) (by decide) kX11_setServing_154 tyX0 tyX0_ok nmX0 rfl rfl rfl rfl ?_
    refine rj_iload_n 0 dX11_setServing_33 rfl rfl ?_
    exact rj_iret dX11_setServing_34 rfl (Nat.le_of_ble_eq_true rfl) (Nat.le_of_ble_eq_true rfl) ⟨(by unfold fX11_setServing; try (rw [hx1]); try (simp only [rj_bx]); try rfl), rfl, (by unfold mX11_setServing; try (rw [hx1]); try (simp only [rj_bm]); try rfl)⟩
