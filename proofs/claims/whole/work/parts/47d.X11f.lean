theorem hSX11_setPrice : yX11_setPrice.cls ≠ "java/lang/invoke/MethodHandle" ∧ yX11_setPrice.cls ≠ "java/lang/invoke/VarHandle" ∧ (parseMethodDescriptor yX11_setPrice.desc).map (fun d => d.parameters.length) = some 2 := by decide +kernel
theorem hVX11_setPrice : yX11_setPrice.cls = RX11 ∧ yX11_setPrice.cls ≠ "java/lang/invoke/MethodHandle" ∧ yX11_setPrice.cls ≠ "java/lang/invoke/VarHandle" ∧ (parseMethodDescriptor yX11_setPrice.desc).map (fun d => d.parameters.length) = some 2 := by decide +kernel
theorem vX11_setPrice_11 : ∀ w ∈ u_ws RX11 TX11 6, w ∈ wsX11_setPrice := by decide +kernel
theorem kX11_setPrice_12 : Cond.fieldLink RX11 12 (TX11 0).1 (TX11 0).2.1 (TX11 0).2.2.1 ∈ wsX11_setPrice := by decide +kernel
theorem vX11_setPrice_5 : ∀ w ∈ u_ws RX5 TX5 8, w ∈ wsX11_setPrice := by decide +kernel
theorem kX11_setPrice_226 : Cond.fieldLink RX11 226 (TX5 7).1 (TX5 7).2.1 (TX5 7).2.2.1 ∈ wsX11_setPrice := by decide +kernel
theorem vX11_setPrice_8 : ∀ w ∈ u_ws RX8 TX8 5, w ∈ wsX11_setPrice := by decide +kernel
theorem kX11_setPrice_230 : Cond.fieldLink RX11 230 (TX8 0).1 (TX8 0).2.1 (TX8 0).2.2.1 ∈ wsX11_setPrice := by decide +kernel
def fX11_setPrice (μ : rj_M) (a0 : Int32) (a1 : Int32) : Int32 ⊕ String := (rj_bx (fX11_needPlace μ a0 4) (rj_bx (fX11_needRange μ a1 0 500) (.inl (fX11_replace (mX11_beginChange μ) 40 4 a0 a1))))
def mX11_setPrice (μ : rj_M) (a0 : Int32) (a1 : Int32) : rj_M := (rj_bm (fX11_needPlace μ a0 4) (rj_bm (fX11_needRange μ a1 0 500) (mX11_replace (mX11_beginChange μ) 40 4 a0 a1) μ) μ)
def qX11_setPrice (μ : rj_M) (a0 : Int32) (a1 : Int32) : Prop := (rq_bx (fX11_needPlace μ a0 4) (rq_bx (fX11_needRange μ a1 0 500) (qX11_beginChange μ ∧ True)))
set_option maxHeartbeats 40000000 in
set_option maxRecDepth 100000 in
theorem sX11_setPrice {g : rj_G} {ω : rj_W} (hω : rj_ok ω) (μ : rj_M) (a0 : Int32) (a1 : Int32)   (hq : qX11_setPrice μ a0 a1) : rj_Sp g yX11_setPrice wsX11_setPrice (rj_rm 7 2) [.ref (ω.2.2 0), .int a0, .int a1] ω μ (rj_D (rj_oi (fX11_setPrice μ a0 a1)) ω (mX11_setPrice μ a0 a1)) := by
  have hqa := hq
  unfold qX11_setPrice at hqa
  refine rj_of' (cc := cX11_setPrice) (nL := 3) (ret := (some .int)) (own := RX11) (l0 := [(0, .ref (ω.2.2 0)), (1, .int a0), (2, .int a1)]) rfl (by decide +kernel) rfl (Nat.le_of_ble_eq_true rfl) rfl ?_
  refine rj_iload_n 1 dX11_setPrice_0 rfl rfl ?_
  refine rj_iconst (v := 4) dX11_setPrice_1 rfl (by decide) ?_
  refine rj_cSx (rest := []) (sX11_needPlace (g := g) (ω := ω) hω μ a0 4   ) gX11_setPrice_X11_needPlace rfl hSX11_needPlace ⟨Nat.le_of_ble_eq_true rfl, Nat.le_of_ble_eq_true rfl⟩ dX11_setPrice_2 rfl rfl rfl (Nat.le_of_ble_eq_true rfl) rfl (Nat.le_of_ble_eq_true rfl) (fun E hE2 => ?_) (fun hx1 => ?_)
  · exact ⟨(by unfold fX11_setPrice; try (rw [hE2]); try (simp only [rj_bx]); try rfl), rfl, (by unfold mX11_setPrice; try (rw [hE2]); try (simp only [rj_bm]); try rfl)⟩
  · have hq1 := hqa; rw [hx1] at hq1; simp only [rq_bx] at hq1
    refine rj_iload_n 2 dX11_setPrice_5 rfl rfl ?_
    refine rj_iconst (v := 0) dX11_setPrice_6 rfl (by decide) ?_
    refine rj_sipush (v := 500) dX11_setPrice_7 rfl (by decide) ?_
    refine rj_cSx (rest := []) (sX11_needRange (g := g) (ω := ω) hω μ a1 0 500   ) gX11_setPrice_X11_needRange rfl hSX11_needRange ⟨Nat.le_of_ble_eq_true rfl, Nat.le_of_ble_eq_true rfl⟩ dX11_setPrice_10 rfl rfl rfl (Nat.le_of_ble_eq_true rfl) rfl (Nat.le_of_ble_eq_true rfl) (fun E hE4 => ?_) (fun hx3 => ?_)
    · exact ⟨(by unfold fX11_setPrice; try (rw [hx1]); try (simp only [rj_bx]); try (rw [hE4]); try (simp only [rj_bx]); try rfl), rfl, (by unfold mX11_setPrice; try (rw [hx1]); try (simp only [rj_bm]); try (rw [hE4]); try (simp only [rj_bm]); try rfl)⟩
    · have hq2 := hq1; rw [hx3] at hq2; simp only [rq_bx] at hq2
      refine rj_aload_n 0 dX11_setPrice_13 rfl rfl ?_
      refine rj_cV (rest := []) (sX11_beginChange (g := g) (ω := ω) hω μ   (hq2).1) gX11_setPrice_X11_beginChange (rj_lt hω (k := 0) rfl) (rj_sh hω ly_0) rfl rfl hVX11_beginChange ⟨Nat.le_of_ble_eq_true rfl, Nat.le_of_ble_eq_true rfl⟩ dX11_setPrice_14 rfl rfl rfl (Nat.le_of_ble_eq_true rfl) rfl (Nat.le_of_ble_eq_true rfl) rfl ?_
      refine rj_aload_n 0 dX11_setPrice_17 rfl rfl ?_
      refine rj_getR (C0 := RX11) (T := TX11) (N := 6) (j := 0) (r := 1) dX11_setPrice_18 rfl vX11_setPrice_11 rfl (rj_lt hω (k := 0) rfl) (rj_sh hω ly_0) (by decide) kX11_setPrice_12 rfl ?_
      refine rj_getR (C0 := RX5) (T := TX5) (N := 8) (j := 7) (r := 39) dX11_setPrice_21 rfl vX11_setPrice_5 rfl (rj_lt hω (k := 1) rfl) (rj_sh hω ly_1) (by decide) kX11_setPrice_226 rfl ?_
      refine rj_getR (C0 := RX8) (T := TX8) (N := 5) (j := 0) (r := 40) dX11_setPrice_24 rfl vX11_setPrice_8 rfl (rj_lt hω (k := 39) rfl) (rj_sh hω ly_39) (by decide) kX11_setPrice_230 rfl ?_
      refine rj_iload_n 1 dX11_setPrice_27 rfl rfl ?_
      refine rj_iload_n 2 dX11_setPrice_28 rfl rfl ?_
      refine rj_cS (rest := []) (sX11_replace (g := g) (ω := ω) (mX11_beginChange μ) 40 4 a0 a1 (rj_lt hω (k := 40) rfl) (rj_sh hω ly_40) (rj_bl rfl)  ) gX11_setPrice_X11_replace rfl hSX11_replace ⟨Nat.le_of_ble_eq_true rfl, Nat.le_of_ble_eq_true rfl⟩ dX11_setPrice_29 rfl rfl rfl (Nat.le_of_ble_eq_true rfl) rfl (Nat.le_of_ble_eq_true rfl) rfl ?_
      exact rj_iret dX11_setPrice_32 rfl (Nat.le_of_ble_eq_true rfl) (Nat.le_of_ble_eq_true rfl) ⟨(by unfold fX11_setPrice; try (rw [hx1]); try (simp only [rj_bx]); try (rw [hx3]); try (simp only [rj_bx]); try rfl), rfl, (by unfold mX11_setPrice; try (rw [hx1]); try (simp only [rj_bm]); try (rw [hx3]); try (simp only [rj_bm]); try rfl)⟩
theorem hSX11_ticket : yX11_ticket.cls ≠ "java/lang/invoke/MethodHandle" ∧ yX11_ticket.cls ≠ "java/lang/invoke/VarHandle" ∧ (parseMethodDescriptor yX11_ticket.desc).map (fun d => d.parameters.length) = some 3 := by decide +kernel
theorem hVX11_ticket : yX11_ticket.cls = RX11 ∧ yX11_ticket.cls ≠ "java/lang/invoke/MethodHandle" ∧ yX11_ticket.cls ≠ "java/lang/invoke/VarHandle" ∧ (parseMethodDescriptor yX11_ticket.desc).map (fun d => d.parameters.length) = some 3 := by decide +kernel
theorem vX11_ticket_11 : ∀ w ∈ u_ws RX11 TX11 6, w ∈ wsX11_ticket := by decide +kernel
theorem kX11_ticket_12 : Cond.fieldLink RX11 12 (TX11 0).1 (TX11 0).2.1 (TX11 0).2.2.1 ∈ wsX11_ticket := by decide +kernel
theorem vX11_ticket_5 : ∀ w ∈ u_ws RX5 TX5 8, w ∈ wsX11_ticket := by decide +kernel
theorem kX11_ticket_226 : Cond.fieldLink RX11 226 (TX5 7).1 (TX5 7).2.1 (TX5 7).2.2.1 ∈ wsX11_ticket := by decide +kernel
def fX11_ticket (μ : rj_M) (a0 : Int32) (a1 : Int32) (a2 : Int32) : Int32 ⊕ String := (rj_bx (fX11_needPlace μ a0 12) (rj_bx (fX11_needPlace μ a1 4) (rj_bx (fX11_needRange μ a2 0 120) (rj_bx (fX11_needNoTicket μ a0 a1) (.inl (fX8_sell (mX11_beginChange μ) a0 a1 a2))))))
def mX11_ticket (μ : rj_M) (a0 : Int32) (a1 : Int32) (a2 : Int32) : rj_M := (rj_bm (fX11_needPlace μ a0 12) (rj_bm (fX11_needPlace μ a1 4) (rj_bm (fX11_needRange μ a2 0 120) (rj_bm (fX11_needNoTicket μ a0 a1) (mX8_sell (mX11_beginChange μ) a0 a1 a2) μ) μ) μ) μ)
def qX11_ticket (μ : rj_M) (a0 : Int32) (a1 : Int32) (a2 : Int32) : Prop := (rq_bx (fX11_needPlace μ a0 12) (rq_bx (fX11_needPlace μ a1 4) (rq_bx (fX11_needRange μ a2 0 120) (rq_bx (fX11_needNoTicket μ a0 a1) (qX11_beginChange μ ∧ True)))))
set_option maxHeartbeats 40000000 in
set_option maxRecDepth 100000 in
theorem sX11_ticket {g : rj_G} {ω : rj_W} (hω : rj_ok ω) (μ : rj_M) (a0 : Int32) (a1 : Int32) (a2 : Int32)   (hq : qX11_ticket μ a0 a1 a2) : rj_Sp g yX11_ticket wsX11_ticket (rj_rm 7 4) [.ref (ω.2.2 0), .int a0, .int a1, .int a2] ω μ (rj_D (rj_oi (fX11_ticket μ a0 a1 a2)) ω (mX11_ticket μ a0 a1 a2)) := by
  have hqa := hq
  unfold qX11_ticket at hqa
  refine rj_of' (cc := cX11_ticket) (nL := 4) (ret := (some .int)) (own := RX11) (l0 := [(0, .ref (ω.2.2 0)), (1, .int a0), (2, .int a1), (3, .int a2)]) rfl (by decide +kernel) rfl (Nat.le_of_ble_eq_true rfl) rfl ?_
  refine rj_iload_n 1 dX11_ticket_0 rfl rfl ?_
  refine rj_bipush (v := 12) dX11_ticket_1 rfl (by decide) ?_
  refine rj_cSx (rest := []) (sX11_needPlace (g := g) (ω := ω) hω μ a0 12   ) gX11_ticket_X11_needPlace rfl hSX11_needPlace ⟨Nat.le_of_ble_eq_true rfl, Nat.le_of_ble_eq_true rfl⟩ dX11_ticket_3 rfl rfl rfl (Nat.le_of_ble_eq_true rfl) rfl (Nat.le_of_ble_eq_true rfl) (fun E hE2 => ?_) (fun hx1 => ?_)
  · exact ⟨(by unfold fX11_ticket; try (rw [hE2]); try (simp only [rj_bx]); try rfl), rfl, (by unfold mX11_ticket; try (rw [hE2]); try (simp only [rj_bm]); try rfl)⟩
  · have hq1 := hqa; rw [hx1] at hq1; simp only [rq_bx] at hq1
    refine rj_iload_n 2 dX11_ticket_6 rfl rfl ?_
    refine rj_iconst (v := 4) dX11_ticket_7 rfl (by decide) ?_
    refine rj_cSx (rest := []) (sX11_needPlace (g := g) (ω := ω) hω μ a1 4   ) gX11_ticket_X11_needPlace rfl hSX11_needPlace ⟨Nat.le_of_ble_eq_true rfl, Nat.le_of_ble_eq_true rfl⟩ dX11_ticket_8 rfl rfl rfl (Nat.le_of_ble_eq_true rfl) rfl (Nat.le_of_ble_eq_true rfl) (fun E hE4 => ?_) (fun hx3 => ?_)
    · exact ⟨(by unfold fX11_ticket; try (rw [hx1]); try (simp only [rj_bx]); try (rw [hE4]); try (simp only [rj_bx]); try rfl), rfl, (by unfold mX11_ticket; try (rw [hx1]); try (simp only [rj_bm]); try (rw [hE4]); try (simp only [rj_bm]); try rfl)⟩
    · have hq2 := hq1; rw [hx3] at hq2; simp only [rq_bx] at hq2
      refine rj_iload_n 3 dX11_ticket_11 rfl rfl ?_
      refine rj_iconst (v := 0) dX11_ticket_12 rfl (by decide) ?_
      refine rj_bipush (v := 120) dX11_ticket_13 rfl (by decide) ?_
      refine rj_cSx (rest := []) (sX11_needRange (g := g) (ω := ω) hω μ a2 0 120   ) gX11_ticket_X11_needRange rfl hSX11_needRange ⟨Nat.le_of_ble_eq_true rfl, Nat.le_of_ble_eq_true rfl⟩ dX11_ticket_15 rfl rfl rfl (Nat.le_of_ble_eq_true rfl) rfl (Nat.le_of_ble_eq_true rfl) (fun E hE6 => ?_) (fun hx5 => ?_)
      · exact ⟨(by unfold fX11_ticket; try (rw [hx1]); try (simp only [rj_bx]); try (rw [hx3]); try (simp only [rj_bx]); try (rw [hE6]); try (simp only [rj_bx]); try rfl), rfl, (by unfold mX11_ticket; try (rw [hx1]); try (simp only [rj_bm]); try (rw [hx3]); try (simp only [rj_bm]); try (rw [hE6]); try (simp only [rj_bm]); try rfl)⟩
      · have hq3 := hq2; rw [hx5] at hq3; simp only [rq_bx] at hq3
        refine rj_aload_n 0 dX11_ticket_18 rfl rfl ?_
        refine rj_iload_n 1 dX11_ticket_19 rfl rfl ?_
        refine rj_iload_n 2 dX11_ticket_20 rfl rfl ?_
        refine rj_cVx (rest := []) (sX11_needNoTicket (g := g) (ω := ω) hω μ a0 a1   ) gX11_ticket_X11_needNoTicket (rj_lt hω (k := 0) rfl) (rj_sh hω ly_0) rfl rfl hVX11_needNoTicket ⟨Nat.le_of_ble_eq_true rfl, Nat.le_of_ble_eq_true rfl⟩ dX11_ticket_21 rfl rfl rfl (Nat.le_of_ble_eq_true rfl) rfl (Nat.le_of_ble_eq_true rfl) (fun E hE8 => ?_) (fun hx7 => ?_)
        · exact ⟨(by unfold fX11_ticket; try (rw [hx1]); try (simp only [rj_bx]); try (rw [hx3]); try (simp only [rj_bx]); try (rw [hx5]); try (simp only [rj_bx]); try (rw [hE8]); try (simp only [rj_bx]); try rfl), rfl, (by unfold mX11_ticket; try (rw [hx1]); try (simp only [rj_bm]); try (rw [hx3]); try (simp only [rj_bm]); try (rw [hx5]); try (simp only [rj_bm]); try (rw [hE8]); try (simp only [rj_bm]); try rfl)⟩
        · have hq4 := hq3; rw [hx7] at hq4; simp only [rq_bx] at hq4
          refine rj_aload_n 0 dX11_ticket_24 rfl rfl ?_
          refine rj_cV (rest := []) (sX11_beginChange (g := g) (ω := ω) hω μ   (hq4).1) gX11_ticket_X11_beginChange (rj_lt hω (k := 0) rfl) (rj_sh hω ly_0) rfl rfl hVX11_beginChange ⟨Nat.le_of_ble_eq_true rfl, Nat.le_of_ble_eq_true rfl⟩ dX11_ticket_25 rfl rfl rfl (Nat.le_of_ble_eq_true rfl) rfl (Nat.le_of_ble_eq_true rfl) rfl ?_
          refine rj_aload_n 0 dX11_ticket_28 rfl rfl ?_
          refine rj_getR (C0 := RX11) (T := TX11) (N := 6) (j := 0) (r := 1) dX11_ticket_29 rfl vX11_ticket_11 rfl (rj_lt hω (k := 0) rfl) (rj_sh hω ly_0) (by decide) kX11_ticket_12 rfl ?_
          refine rj_getR (C0 := RX5) (T := TX5) (N := 8) (j := 7) (r := 39) dX11_ticket_32 rfl vX11_ticket_5 rfl (rj_lt hω (k := 1) rfl) (rj_sh hω ly_1) (by decide) kX11_ticket_226 rfl ?_
          refine rj_iload_n 1 dX11_ticket_35 rfl rfl ?_
          refine rj_iload_n 2 dX11_ticket_36 rfl rfl ?_
          refine rj_iload_n 3 dX11_ticket_37 rfl rfl ?_
          refine rj_cV (rest := []) (sX8_sell (g := g) (ω := ω) hω (mX11_beginChange μ) a0 a1 a2   ) gX11_ticket_X8_sell (rj_lt hω (k := 39) rfl) (rj_sh hω ly_39) rfl rfl hVX8_sell ⟨Nat.le_of_ble_eq_true rfl, Nat.le_of_ble_eq_true rfl⟩ dX11_ticket_38 rfl rfl rfl (Nat.le_of_ble_eq_true rfl) rfl (Nat.le_of_ble_eq_true rfl) rfl ?_
          exact rj_iret dX11_ticket_41 rfl (Nat.le_of_ble_eq_true rfl) (Nat.le_of_ble_eq_true rfl) ⟨(by unfold fX11_ticket; try (rw [hx1]); try (simp only [rj_bx]); try (rw [hx3]); try (simp only [rj_bx]); try (rw [hx5]); try (simp only [rj_bx]); try (rw [hx7]); try (simp only [rj_bx]); try rfl), rfl, (by unfold mX11_ticket; try (rw [hx1]); try (simp only [rj_bm]); try (rw [hx3]); try (simp only [rj_bm]); try (rw [hx5]); try (simp only [rj_bm]); try (rw [hx7]); try (simp only [rj_bm]); try rfl)⟩
theorem hSX11_refund : yX11_refund.cls ≠ "java/lang/invoke/MethodHandle" ∧ yX11_refund.cls ≠ "java/lang/invoke/VarHandle" ∧ (parseMethodDescriptor yX11_refund.desc).map (fun d => d.parameters.length) = some 2 := by decide +kernel
theorem hVX11_refund : yX11_refund.cls = RX11 ∧ yX11_refund.cls ≠ "java/lang/invoke/MethodHandle" ∧ yX11_refund.cls ≠ "java/lang/invoke/VarHandle" ∧ (parseMethodDescriptor yX11_refund.desc).map (fun d => d.parameters.length) = some 2 := by decide +kernel
theorem vX11_refund_11 : ∀ w ∈ u_ws RX11 TX11 6, w ∈ wsX11_refund := by decide +kernel
theorem kX11_refund_12 : Cond.fieldLink RX11 12 (TX11 0).1 (TX11 0).2.1 (TX11 0).2.2.1 ∈ wsX11_refund := by decide +kernel
theorem vX11_refund_5 : ∀ w ∈ u_ws RX5 TX5 8, w ∈ wsX11_refund := by decide +kernel
theorem kX11_refund_226 : Cond.fieldLink RX11 226 (TX5 7).1 (TX5 7).2.1 (TX5 7).2.2.1 ∈ wsX11_refund := by decide +kernel
def fX11_refund (μ : rj_M) (a0 : Int32) (a1 : Int32) : Int32 ⊕ String := (rj_bx (fX11_needPlace μ a0 12) (rj_bx (fX11_needPlace μ a1 4) (rj_bx (fX11_needTicket μ a0 a1) (.inl (fX8_takeBack (mX11_beginChange μ) a0 a1)))))
def mX11_refund (μ : rj_M) (a0 : Int32) (a1 : Int32) : rj_M := (rj_bm (fX11_needPlace μ a0 12) (rj_bm (fX11_needPlace μ a1 4) (rj_bm (fX11_needTicket μ a0 a1) (mX8_takeBack (mX11_beginChange μ) a0 a1) μ) μ) μ)
def qX11_refund (μ : rj_M) (a0 : Int32) (a1 : Int32) : Prop := (rq_bx (fX11_needPlace μ a0 12) (rq_bx (fX11_needPlace μ a1 4) (rq_bx (fX11_needTicket μ a0 a1) (qX11_beginChange μ ∧ True))))
set_option maxHeartbeats 40000000 in
set_option maxRecDepth 100000 in
theorem sX11_refund {g : rj_G} {ω : rj_W} (hω : rj_ok ω) (μ : rj_M) (a0 : Int32) (a1 : Int32)   (hq : qX11_refund μ a0 a1) : rj_Sp g yX11_refund wsX11_refund (rj_rm 7 3) [.ref (ω.2.2 0), .int a0, .int a1] ω μ (rj_D (rj_oi (fX11_refund μ a0 a1)) ω (mX11_refund μ a0 a1)) := by
  have hqa := hq
  unfold qX11_refund at hqa
  refine rj_of' (cc := cX11_refund) (nL := 3) (ret := (some .int)) (own := RX11) (l0 := [(0, .ref (ω.2.2 0)), (1, .int a0), (2, .int a1)]) rfl (by decide +kernel) rfl (Nat.le_of_ble_eq_true rfl) rfl ?_
  refine rj_iload_n 1 dX11_refund_0 rfl rfl ?_
  refine rj_bipush (v := 12) dX11_refund_1 rfl (by decide) ?_
  refine rj_cSx (rest := []) (sX11_needPlace (g := g) (ω := ω) hω μ a0 12   ) gX11_refund_X11_needPlace rfl hSX11_needPlace ⟨Nat.le_of_ble_eq_true rfl, Nat.le_of_ble_eq_true rfl⟩ dX11_refund_3 rfl rfl rfl (Nat.le_of_ble_eq_true rfl) rfl (Nat.le_of_ble_eq_true rfl) (fun E hE2 => ?_) (fun hx1 => ?_)
  · exact ⟨(by unfold fX11_refund; try (rw [hE2]); try (simp only [rj_bx]); try rfl), rfl, (by unfold mX11_refund; try (rw [hE2]); try (simp only [rj_bm]); try rfl)⟩
  · have hq1 := hqa; rw [hx1] at hq1; simp only [rq_bx] at hq1
    refine rj_iload_n 2 dX11_refund_6 rfl rfl ?_
    refine rj_iconst (v := 4) dX11_refund_7 rfl (by decide) ?_
    refine rj_cSx (rest := []) (sX11_needPlace (g := g) (ω := ω) hω μ a1 4   ) gX11_refund_X11_needPlace rfl hSX11_needPlace ⟨Nat.le_of_ble_eq_true rfl, Nat.le_of_ble_eq_true rfl⟩ dX11_refund_8 rfl rfl rfl (Nat.le_of_ble_eq_true rfl) rfl (Nat.le_of_ble_eq_true rfl) (fun E hE4 => ?_) (fun hx3 => ?_)
    · exact ⟨(by unfold fX11_refund; try (rw [hx1]); try (simp only [rj_bx]); try (rw [hE4]); try (simp only [rj_bx]); try rfl), rfl, (by unfold mX11_refund; try (rw [hx1]); try (simp only [rj_bm]); try (rw [hE4]); try (simp only [rj_bm]); try rfl)⟩
    · have hq2 := hq1; rw [hx3] at hq2; simp only [rq_bx] at hq2
      refine rj_aload_n 0 dX11_refund_11 rfl rfl ?_
      refine rj_iload_n 1 dX11_refund_12 rfl rfl ?_
      refine rj_iload_n 2 dX11_refund_13 rfl rfl ?_
      refine rj_cVx (rest := []) (sX11_needTicket (g := g) (ω := ω) hω μ a0 a1   ) gX11_refund_X11_needTicket (rj_lt hω (k := 0) rfl) (rj_sh hω ly_0) rfl rfl hVX11_needTicket ⟨Nat.le_of_ble_eq_true rfl, Nat.le_of_ble_eq_true rfl⟩ dX11_refund_14 rfl rfl rfl (Nat.le_of_ble_eq_true rfl) rfl (Nat.le_of_ble_eq_true rfl) (fun E hE6 => ?_) (fun hx5 => ?_)
      · exact ⟨(by unfold fX11_refund; try (rw [hx1]); try (simp only [rj_bx]); try (rw [hx3]); try (simp only [rj_bx]); try (rw [hE6]); try (simp only [rj_bx]); try rfl), rfl, (by unfold mX11_refund; try (rw [hx1]); try (simp only [rj_bm]); try (rw [hx3]); try (simp only [rj_bm]); try (rw [hE6]); try (simp only [rj_bm]); try rfl)⟩
      · have hq3 := hq2; rw [hx5] at hq3; simp only [rq_bx] at hq3
        refine rj_aload_n 0 dX11_refund_17 rfl rfl ?_
        refine rj_cV (rest := []) (sX11_beginChange (g := g) (ω := ω) hω μ   (hq3).1) gX11_refund_X11_beginChange (rj_lt hω (k := 0) rfl) (rj_sh hω ly_0) rfl rfl hVX11_beginChange ⟨Nat.le_of_ble_eq_true rfl, Nat.le_of_ble_eq_true rfl⟩ dX11_refund_18 rfl rfl rfl (Nat.le_of_ble_eq_true rfl) rfl (Nat.le_of_ble_eq_true rfl) rfl ?_
        refine rj_aload_n 0 dX11_refund_21 rfl rfl ?_
        refine rj_getR (C0 := RX11) (T := TX11) (N := 6) (j := 0) (r := 1) dX11_refund_22 rfl vX11_refund_11 rfl (rj_lt hω (k := 0) rfl) (rj_sh hω ly_0) (by decide) kX11_refund_12 rfl ?_
        refine rj_getR (C0 := RX5) (T := TX5) (N := 8) (j := 7) (r := 39) dX11_refund_25 rfl vX11_refund_5 rfl (rj_lt hω (k := 1) rfl) (rj_sh hω ly_1) (by decide) kX11_refund_226 rfl ?_
        refine rj_iload_n 1 dX11_refund_28 rfl rfl ?_
        refine rj_iload_n 2 dX11_refund_29 rfl rfl ?_
        refine rj_cV (rest := []) (sX8_takeBack (g := g) (ω := ω) hω (mX11_beginChange μ) a0 a1   ) gX11_refund_X8_takeBack (rj_lt hω (k := 39) rfl) (rj_sh hω ly_39) rfl rfl hVX8_takeBack ⟨Nat.le_of_ble_eq_true rfl, Nat.le_of_ble_eq_true rfl⟩ dX11_refund_30 rfl rfl rfl (Nat.le_of_ble_eq_true rfl) rfl (Nat.le_of_ble_eq_true rfl) rfl ?_
        exact rj_iret dX11_refund_33 rfl (Nat.le_of_ble_eq_true rfl) (Nat.le_of_ble_eq_true rfl) ⟨(by unfold fX11_refund; try (rw [hx1]); try (simp only [rj_bx]); try (rw [hx3]); try (simp only [rj_bx]); try (rw [hx5]); try (simp only [rj_bx]); try rfl), rfl, (by unfold mX11_refund; try (rw [hx1]); try (simp only [rj_bm]); try (rw [hx3]); try (simp only [rj_bm]); try (rw [hx5]); try (simp only [rj_bm]); try rfl)⟩
theorem hSX11_resell : yX11_resell.cls ≠ "java/lang/invoke/MethodHandle" ∧ yX11_resell.cls ≠ "java/lang/invoke/VarHandle" ∧ (parseMethodDescriptor yX11_resell.desc).map (fun d => d.parameters.length) = some 3 := by decide +kernel
theorem hVX11_resell : yX11_resell.cls = RX11 ∧ yX11_resell.cls ≠ "java/lang/invoke/MethodHandle" ∧ yX11_resell.cls ≠ "java/lang/invoke/VarHandle" ∧ (parseMethodDescriptor yX11_resell.desc).map (fun d => d.parameters.length) = some 3 := by decide +kernel
theorem vX11_resell_11 : ∀ w ∈ u_ws RX11 TX11 6, w ∈ wsX11_resell := by decide +kernel
theorem kX11_resell_12 : Cond.fieldLink RX11 12 (TX11 0).1 (TX11 0).2.1 (TX11 0).2.2.1 ∈ wsX11_resell := by decide +kernel
theorem vX11_resell_5 : ∀ w ∈ u_ws RX5 TX5 8, w ∈ wsX11_resell := by decide +kernel
theorem kX11_resell_226 : Cond.fieldLink RX11 226 (TX5 7).1 (TX5 7).2.1 (TX5 7).2.2.1 ∈ wsX11_resell := by decide +kernel
def fX11_resell (μ : rj_M) (a0 : Int32) (a1 : Int32) (a2 : Int32) : Int32 ⊕ String := (rj_bx (fX11_needPlace μ a0 12) (rj_bx (fX11_needPlace μ a1 12) (rj_bx (fX11_needPlace μ a2 4) (rj_bx (fX11_needTicket μ a0 a2) (rj_bx (fX11_needNoTicket μ a1 a2) (.inl (fX8_handOver (mX11_beginChange μ) a0 a1 a2)))))))
def mX11_resell (μ : rj_M) (a0 : Int32) (a1 : Int32) (a2 : Int32) : rj_M := (rj_bm (fX11_needPlace μ a0 12) (rj_bm (fX11_needPlace μ a1 12) (rj_bm (fX11_needPlace μ a2 4) (rj_bm (fX11_needTicket μ a0 a2) (rj_bm (fX11_needNoTicket μ a1 a2) (mX8_handOver (mX11_beginChange μ) a0 a1 a2) μ) μ) μ) μ) μ)
def qX11_resell (μ : rj_M) (a0 : Int32) (a1 : Int32) (a2 : Int32) : Prop := (rq_bx (fX11_needPlace μ a0 12) (rq_bx (fX11_needPlace μ a1 12) (rq_bx (fX11_needPlace μ a2 4) (rq_bx (fX11_needTicket μ a0 a2) (rq_bx (fX11_needNoTicket μ a1 a2) (qX11_beginChange μ ∧ True))))))
set_option maxHeartbeats 40000000 in
set_option maxRecDepth 100000 in
theorem sX11_resell {g : rj_G} {ω : rj_W} (hω : rj_ok ω) (μ : rj_M) (a0 : Int32) (a1 : Int32) (a2 : Int32)   (hq : qX11_resell μ a0 a1 a2) : rj_Sp g yX11_resell wsX11_resell (rj_rm 7 5) [.ref (ω.2.2 0), .int a0, .int a1, .int a2] ω μ (rj_D (rj_oi (fX11_resell μ a0 a1 a2)) ω (mX11_resell μ a0 a1 a2)) := by
  have hqa := hq
  unfold qX11_resell at hqa
  refine rj_of' (cc := cX11_resell) (nL := 4) (ret := (some .int)) (own := RX11) (l0 := [(0, .ref (ω.2.2 0)), (1, .int a0), (2, .int a1), (3, .int a2)]) rfl (by decide +kernel) rfl (Nat.le_of_ble_eq_true rfl) rfl ?_
  refine rj_iload_n 1 dX11_resell_0 rfl rfl ?_
  refine rj_bipush (v := 12) dX11_resell_1 rfl (by decide) ?_
  refine rj_cSx (rest := []) (sX11_needPlace (g := g) (ω := ω) hω μ a0 12   ) gX11_resell_X11_needPlace rfl hSX11_needPlace ⟨Nat.le_of_ble_eq_true rfl, Nat.le_of_ble_eq_true rfl⟩ dX11_resell_3 rfl rfl rfl (Nat.le_of_ble_eq_true rfl) rfl (Nat.le_of_ble_eq_true rfl) (fun E hE2 => ?_) (fun hx1 => ?_)
  · exact ⟨(by unfold fX11_resell; try (rw [hE2]); try (simp only [rj_bx]); try rfl), rfl, (by unfold mX11_resell; try (rw [hE2]); try (simp only [rj_bm]); try rfl)⟩
  · have hq1 := hqa; rw [hx1] at hq1; simp only [rq_bx] at hq1
    refine rj_iload_n 2 dX11_resell_6 rfl rfl ?_
    refine rj_bipush (v := 12) dX11_resell_7 rfl (by decide) ?_
    refine rj_cSx (rest := []) (sX11_needPlace (g := g) (ω := ω) hω μ a1 12   ) gX11_resell_X11_needPlace rfl hSX11_needPlace ⟨Nat.le_of_ble_eq_true rfl, Nat.le_of_ble_eq_true rfl⟩ dX11_resell_9 rfl rfl rfl (Nat.le_of_ble_eq_true rfl) rfl (Nat.le_of_ble_eq_true rfl) (fun E hE4 => ?_) (fun hx3 => ?_)
    · exact ⟨(by unfold fX11_resell; try (rw [hx1]); try (simp only [rj_bx]); try (rw [hE4]); try (simp only [rj_bx]); try rfl), rfl, (by unfold mX11_resell; try (rw [hx1]); try (simp only [rj_bm]); try (rw [hE4]); try (simp only [rj_bm]); try rfl)⟩
    · have hq2 := hq1; rw [hx3] at hq2; simp only [rq_bx] at hq2
      refine rj_iload_n 3 dX11_resell_12 rfl rfl ?_
      refine rj_iconst (v := 4) dX11_resell_13 rfl (by decide) ?_
      refine rj_cSx (rest := []) (sX11_needPlace (g := g) (ω := ω) hω μ a2 4   ) gX11_resell_X11_needPlace rfl hSX11_needPlace ⟨Nat.le_of_ble_eq_true rfl, Nat.le_of_ble_eq_true rfl⟩ dX11_resell_14 rfl rfl rfl (Nat.le_of_ble_eq_true rfl) rfl (Nat.le_of_ble_eq_true rfl) (fun E hE6 => ?_) (fun hx5 => ?_)
      · exact ⟨(by unfold fX11_resell; try (rw [hx1]); try (simp only [rj_bx]); try (rw [hx3]); try (simp only [rj_bx]); try (rw [hE6]); try (simp only [rj_bx]); try rfl), rfl, (by unfold mX11_resell; try (rw [hx1]); try (simp only [rj_bm]); try (rw [hx3]); try (simp only [rj_bm]); try (rw [hE6]); try (simp only [rj_bm]); try rfl)⟩
      · have hq3 := hq2; rw [hx5] at hq3; simp only [rq_bx] at hq3
        refine rj_aload_n 0 dX11_resell_17 rfl rfl ?_
        refine rj_iload_n 1 dX11_resell_18 rfl rfl ?_
        refine rj_iload_n 3 dX11_resell_19 rfl rfl ?_
        refine rj_cVx (rest := []) (sX11_needTicket (g := g) (ω := ω) hω μ a0 a2   ) gX11_resell_X11_needTicket (rj_lt hω (k := 0) rfl) (rj_sh hω ly_0) rfl rfl hVX11_needTicket ⟨Nat.le_of_ble_eq_true rfl, Nat.le_of_ble_eq_true rfl⟩ dX11_resell_20 rfl rfl rfl (Nat.le_of_ble_eq_true rfl) rfl (Nat.le_of_ble_eq_true rfl) (fun E hE8 => ?_) (fun hx7 => ?_)
        · exact ⟨(by unfold fX11_resell; try (rw [hx1]); try (simp only [rj_bx]); try (rw [hx3]); try (simp only [rj_bx]); try (rw [hx5]); try (simp only [rj_bx]); try (rw [hE8]); try (simp only [rj_bx]); try rfl), rfl, (by unfold mX11_resell; try (rw [hx1]); try (simp only [rj_bm]); try (rw [hx3]); try (simp only [rj_bm]); try (rw [hx5]); try (simp only [rj_bm]); try (rw [hE8]); try (simp only [rj_bm]); try rfl)⟩
        · have hq4 := hq3; rw [hx7] at hq4; simp only [rq_bx] at hq4
          refine rj_aload_n 0 dX11_resell_23 rfl rfl ?_
          refine rj_iload_n 2 dX11_resell_24 rfl rfl ?_
          refine rj_iload_n 3 dX11_resell_25 rfl rfl ?_
          refine rj_cVx (rest := []) (sX11_needNoTicket (g := g) (ω := ω) hω μ a1 a2   ) gX11_resell_X11_needNoTicket (rj_lt hω (k := 0) rfl) (rj_sh hω ly_0) rfl rfl hVX11_needNoTicket ⟨Nat.le_of_ble_eq_true rfl, Nat.le_of_ble_eq_true rfl⟩ dX11_resell_26 rfl rfl rfl (Nat.le_of_ble_eq_true rfl) rfl (Nat.le_of_ble_eq_true rfl) (fun E hE10 => ?_) (fun hx9 => ?_)
          · exact ⟨(by unfold fX11_resell; try (rw [hx1]); try (simp only [rj_bx]); try (rw [hx3]); try (simp only [rj_bx]); try (rw [hx5]); try (simp only [rj_bx]); try (rw [hx7]); try (simp only [rj_bx]); try (rw [hE10]); try (simp only [rj_bx]); try rfl), rfl, (by unfold mX11_resell; try (rw [hx1]); try (simp only [rj_bm]); try (rw [hx3]); try (simp only [rj_bm]); try (rw [hx5]); try (simp only [rj_bm]); try (rw [hx7]); try (simp only [rj_bm]); try (rw [hE10]); try (simp only [rj_bm]); try rfl)⟩
          · have hq5 := hq4; rw [hx9] at hq5; simp only [rq_bx] at hq5
            refine rj_aload_n 0 dX11_resell_29 rfl rfl ?_
            refine rj_cV (rest := []) (sX11_beginChange (g := g) (ω := ω) hω μ   (hq5).1) gX11_resell_X11_beginChange (rj_lt hω (k := 0) rfl) (rj_sh hω ly_0) rfl rfl hVX11_beginChange ⟨Nat.le_of_ble_eq_true rfl, Nat.le_of_ble_eq_true rfl⟩ dX11_resell_30 rfl rfl rfl (Nat.le_of_ble_eq_true rfl) rfl (Nat.le_of_ble_eq_true rfl) rfl ?_
            refine rj_aload_n 0 dX11_resell_33 rfl rfl ?_
            refine rj_getR (C0 := RX11) (T := TX11) (N := 6) (j := 0) (r := 1) dX11_resell_34 rfl vX11_resell_11 rfl (rj_lt hω (k := 0) rfl) (rj_sh hω ly_0) (by decide) kX11_resell_12 rfl ?_
            refine rj_getR (C0 := RX5) (T := TX5) (N := 8) (j := 7) (r := 39) dX11_resell_37 rfl vX11_resell_5 rfl (rj_lt hω (k := 1) rfl) (rj_sh hω ly_1) (by decide) kX11_resell_226 rfl ?_
            refine rj_iload_n 1 dX11_resell_40 rfl rfl ?_
            refine rj_iload_n 2 dX11_resell_41 rfl rfl ?_
            refine rj_iload_n 3 dX11_resell_42 rfl rfl ?_
            refine rj_cV (rest := []) (sX8_handOver (g := g) (ω := ω) hω (mX11_beginChange μ) a0 a1 a2   ) gX11_resell_X8_handOver (rj_lt hω (k := 39) rfl) (rj_sh hω ly_39) rfl rfl hVX8_handOver ⟨Nat.le_of_ble_eq_true rfl, Nat.le_of_ble_eq_true rfl⟩ dX11_resell_43 rfl rfl rfl (Nat.le_of_ble_eq_true rfl) rfl (Nat.le_of_ble_eq_true rfl) rfl ?_
            exact rj_iret dX11_resell_46 rfl (Nat.le_of_ble_eq_true rfl) (Nat.le_of_ble_eq_true rfl) ⟨(by unfold fX11_resell; try (rw [hx1]); try (simp only [rj_bx]); try (rw [hx3]); try (simp only [rj_bx]); try (rw [hx5]); try (simp only [rj_bx]); try (rw [hx7]); try (simp only [rj_bx]); try (rw [hx9]); try (simp only [rj_bx]); try rfl), rfl, (by unfold mX11_resell; try (rw [hx1]); try (simp only [rj_bm]); try (rw [hx3]); try (simp only [rj_bm]); try (rw [hx5]); try (simp only [rj_bm]); try (rw [hx7]); try (simp only [rj_bm]); try (rw [hx9]); try (simp only [rj_bm]); try rfl)⟩
theorem hSX11_payBands : yX11_payBands.cls ≠ "java/lang/invoke/MethodHandle" ∧ yX11_payBands.cls ≠ "java/lang/invoke/VarHandle" ∧ (parseMethodDescriptor yX11_payBands.desc).map (fun d => d.parameters.length) = some 0 := by decide +kernel
theorem hVX11_payBands : yX11_payBands.cls = RX11 ∧ yX11_payBands.cls ≠ "java/lang/invoke/MethodHandle" ∧ yX11_payBands.cls ≠ "java/lang/invoke/VarHandle" ∧ (parseMethodDescriptor yX11_payBands.desc).map (fun d => d.parameters.length) = some 0 := by decide +kernel
theorem vX11_payBands_11 : ∀ w ∈ u_ws RX11 TX11 6, w ∈ wsX11_payBands := by decide +kernel
theorem kX11_payBands_12 : Cond.fieldLink RX11 12 (TX11 0).1 (TX11 0).2.1 (TX11 0).2.2.1 ∈ wsX11_payBands := by decide +kernel
theorem vX11_payBands_5 : ∀ w ∈ u_ws RX5 TX5 8, w ∈ wsX11_payBands := by decide +kernel
theorem kX11_payBands_226 : Cond.fieldLink RX11 226 (TX5 7).1 (TX5 7).2.1 (TX5 7).2.2.1 ∈ wsX11_payBands := by decide +kernel
theorem kX11_payBands_26 : Cond.fieldLink RX11 26 (TX5 2).1 (TX5 2).2.1 (TX5 2).2.2.1 ∈ wsX11_payBands := by decide +kernel
def fX11_payBands (μ : rj_M) : Int32 := (fX8_payMembers (mX7_lineup (mX11_beginChange μ)) (fX7_lineup (mX11_beginChange μ)))
def mX11_payBands (μ : rj_M) : rj_M := (mX8_payMembers (mX7_lineup (mX11_beginChange μ)) (fX7_lineup (mX11_beginChange μ)))
def qX11_payBands (μ : rj_M) : Prop := (qX11_beginChange μ ∧ qX7_lineup (mX11_beginChange μ) ∧ True)
set_option maxHeartbeats 40000000 in
set_option maxRecDepth 100000 in
theorem sX11_payBands {g : rj_G} {ω : rj_W} (hω : rj_ok ω) (μ : rj_M)   (hq : qX11_payBands μ) : rj_Sp g yX11_payBands wsX11_payBands (rj_rm 20 0) [.ref (ω.2.2 0)] ω μ (rj_D (.inl (some (.int (fX11_payBands μ)))) ω (mX11_payBands μ)) := by
  have hqa := hq
  unfold qX11_payBands at hqa
  refine rj_of' (cc := cX11_payBands) (nL := 1) (ret := (some .int)) (own := RX11) (l0 := [(0, .ref (ω.2.2 0))]) rfl (by decide +kernel) rfl (Nat.le_of_ble_eq_true rfl) rfl ?_
  refine rj_aload_n 0 dX11_payBands_0 rfl rfl ?_
  refine rj_cV (rest := []) (sX11_beginChange (g := g) (ω := ω) hω μ   (hqa).1) gX11_payBands_X11_beginChange (rj_lt hω (k := 0) rfl) (rj_sh hω ly_0) rfl rfl hVX11_beginChange ⟨Nat.le_of_ble_eq_true rfl, Nat.le_of_ble_eq_true rfl⟩ dX11_payBands_1 rfl rfl rfl (Nat.le_of_ble_eq_true rfl) rfl (Nat.le_of_ble_eq_true rfl) rfl ?_
  refine rj_aload_n 0 dX11_payBands_4 rfl rfl ?_
  refine rj_getR (C0 := RX11) (T := TX11) (N := 6) (j := 0) (r := 1) dX11_payBands_5 rfl vX11_payBands_11 rfl (rj_lt hω (k := 0) rfl) (rj_sh hω ly_0) (by decide) kX11_payBands_12 rfl ?_
  refine rj_getR (C0 := RX5) (T := TX5) (N := 8) (j := 7) (r := 39) dX11_payBands_8 rfl vX11_payBands_5 rfl (rj_lt hω (k := 1) rfl) (rj_sh hω ly_1) (by decide) kX11_payBands_226 rfl ?_
  refine rj_aload_n 0 dX11_payBands_11 rfl rfl ?_
  refine rj_getR (C0 := RX11) (T := TX11) (N := 6) (j := 0) (r := 1) dX11_payBands_12 rfl vX11_payBands_11 rfl (rj_lt hω (k := 0) rfl) (rj_sh hω ly_0) (by decide) kX11_payBands_12 rfl ?_
  refine rj_getR (C0 := RX5) (T := TX5) (N := 8) (j := 2) (r := 8) dX11_payBands_15 rfl vX11_payBands_5 rfl (rj_lt hω (k := 1) rfl) (rj_sh hω ly_1) (by decide) kX11_payBands_26 rfl ?_
  refine rj_aload_n 0 dX11_payBands_18 rfl rfl ?_
  refine rj_getR (C0 := RX11) (T := TX11) (N := 6) (j := 0) (r := 1) dX11_payBands_19 rfl vX11_payBands_11 rfl (rj_lt hω (k := 0) rfl) (rj_sh hω ly_0) (by decide) kX11_payBands_12 rfl ?_
  refine rj_getR (C0 := RX5) (T := TX5) (N := 8) (j := 2) (r := 8) dX11_payBands_22 rfl vX11_payBands_5 rfl (rj_lt hω (k := 1) rfl) (rj_sh hω ly_1) (by decide) kX11_payBands_26 rfl ?_
  refine rj_cV (rest := [.ref (ω.2.2 8), .ref (ω.2.2 39)]) (sX7_lineup (g := g) (ω := ω) hω (mX11_beginChange μ)   ((hqa).2).1) gX11_payBands_X7_lineup (rj_lt hω (k := 8) rfl) (rj_sh hω ly_8) rfl rfl hVX7_lineup ⟨Nat.le_of_ble_eq_true rfl, Nat.le_of_ble_eq_true rfl⟩ dX11_payBands_25 rfl rfl rfl (Nat.le_of_ble_eq_true rfl) rfl (Nat.le_of_ble_eq_true rfl) rfl ?_
  refine rj_cV (rest := []) (sX8_payMembers (g := g) (ω := ω) hω (mX7_lineup (mX11_beginChange μ)) (fX7_lineup (mX11_beginChange μ))   ) gX11_payBands_X8_payMembers (rj_lt hω (k := 39) rfl) (rj_sh hω ly_39) rfl rfl hVX8_payMembers ⟨Nat.le_of_ble_eq_true rfl, Nat.le_of_ble_eq_true rfl⟩ dX11_payBands_28 rfl rfl rfl (Nat.le_of_ble_eq_true rfl) rfl (Nat.le_of_ble_eq_true rfl) rfl ?_
  exact rj_iret dX11_payBands_31 rfl (Nat.le_of_ble_eq_true rfl) (Nat.le_of_ble_eq_true rfl) ⟨(by unfold fX11_payBands; rfl), rfl, (by unfold mX11_payBands; rfl)⟩
theorem hSX11_lose : yX11_lose.cls ≠ "java/lang/invoke/MethodHandle" ∧ yX11_lose.cls ≠ "java/lang/invoke/VarHandle" ∧ (parseMethodDescriptor yX11_lose.desc).map (fun d => d.parameters.length) = some 2 := by decide +kernel
theorem hVX11_lose : yX11_lose.cls = RX11 ∧ yX11_lose.cls ≠ "java/lang/invoke/MethodHandle" ∧ yX11_lose.cls ≠ "java/lang/invoke/VarHandle" ∧ (parseMethodDescriptor yX11_lose.desc).map (fun d => d.parameters.length) = some 2 := by decide +kernel
theorem vX11_lose_11 : ∀ w ∈ u_ws RX11 TX11 6, w ∈ wsX11_lose := by decide +kernel
theorem kX11_lose_12 : Cond.fieldLink RX11 12 (TX11 0).1 (TX11 0).2.1 (TX11 0).2.2.1 ∈ wsX11_lose := by decide +kernel
theorem vX11_lose_5 : ∀ w ∈ u_ws RX5 TX5 8, w ∈ wsX11_lose := by decide +kernel
theorem kX11_lose_22 : Cond.fieldLink RX11 22 (TX5 1).1 (TX5 1).2.1 (TX5 1).2.2.1 ∈ wsX11_lose := by decide +kernel
theorem vX11_lose_4 : ∀ w ∈ u_ws RX4 TX4 4, w ∈ wsX11_lose := by decide +kernel
theorem kX11_lose_258 : Cond.fieldLink RX11 258 (TX4 3).1 (TX4 3).2.1 (TX4 3).2.2.1 ∈ wsX11_lose := by decide +kernel
def fX11_lose (μ : rj_M) (a0 : Int32) (a1 : Int32) : Int32 ⊕ String := (rj_bx (fX11_needPlace μ a1 4) (rj_bx (fX11_needRange μ a0 0 99) (.inl (fX4_countLost (mX11_replace (mX11_beginChange μ) 7 100 a0 a1)))))
def mX11_lose (μ : rj_M) (a0 : Int32) (a1 : Int32) : rj_M := (rj_bm (fX11_needPlace μ a1 4) (rj_bm (fX11_needRange μ a0 0 99) (mX11_replace (mX11_beginChange μ) 7 100 a0 a1) μ) μ)
def qX11_lose (μ : rj_M) (a0 : Int32) (a1 : Int32) : Prop := (rq_bx (fX11_needPlace μ a1 4) (rq_bx (fX11_needRange μ a0 0 99) (qX11_beginChange μ ∧ True)))
set_option maxHeartbeats 40000000 in
set_option maxRecDepth 100000 in
theorem sX11_lose {g : rj_G} {ω : rj_W} (hω : rj_ok ω) (μ : rj_M) (a0 : Int32) (a1 : Int32)   (hq : qX11_lose μ a0 a1) : rj_Sp g yX11_lose wsX11_lose (rj_rm 7 2) [.ref (ω.2.2 0), .int a0, .int a1] ω μ (rj_D (rj_oi (fX11_lose μ a0 a1)) ω (mX11_lose μ a0 a1)) := by
  have hqa := hq
  unfold qX11_lose at hqa
  refine rj_of' (cc := cX11_lose) (nL := 3) (ret := (some .int)) (own := RX11) (l0 := [(0, .ref (ω.2.2 0)), (1, .int a0), (2, .int a1)]) rfl (by decide +kernel) rfl (Nat.le_of_ble_eq_true rfl) rfl ?_
  refine rj_iload_n 2 dX11_lose_0 rfl rfl ?_
  refine rj_iconst (v := 4) dX11_lose_1 rfl (by decide) ?_
  refine rj_cSx (rest := []) (sX11_needPlace (g := g) (ω := ω) hω μ a1 4   ) gX11_lose_X11_needPlace rfl hSX11_needPlace ⟨Nat.le_of_ble_eq_true rfl, Nat.le_of_ble_eq_true rfl⟩ dX11_lose_2 rfl rfl rfl (Nat.le_of_ble_eq_true rfl) rfl (Nat.le_of_ble_eq_true rfl) (fun E hE2 => ?_) (fun hx1 => ?_)
  · exact ⟨(by unfold fX11_lose; try (rw [hE2]); try (simp only [rj_bx]); try rfl), rfl, (by unfold mX11_lose; try (rw [hE2]); try (simp only [rj_bm]); try rfl)⟩
  · have hq1 := hqa; rw [hx1] at hq1; simp only [rq_bx] at hq1
    refine rj_iload_n 1 dX11_lose_5 rfl rfl ?_
    refine rj_iconst (v := 0) dX11_lose_6 rfl (by decide) ?_
    refine rj_bipush (v := 99) dX11_lose_7 rfl (by decide) ?_
    refine rj_cSx (rest := []) (sX11_needRange (g := g) (ω := ω) hω μ a0 0 99   ) gX11_lose_X11_needRange rfl hSX11_needRange ⟨Nat.le_of_ble_eq_true rfl, Nat.le_of_ble_eq_true rfl⟩ dX11_lose_9 rfl rfl rfl (Nat.le_of_ble_eq_true rfl) rfl (Nat.le_of_ble_eq_true rfl) (fun E hE4 => ?_) (fun hx3 => ?_)
    · exact ⟨(by unfold fX11_lose; try (rw [hx1]); try (simp only [rj_bx]); try (rw [hE4]); try (simp only [rj_bx]); try rfl), rfl, (by unfold mX11_lose; try (rw [hx1]); try (simp only [rj_bm]); try (rw [hE4]); try (simp only [rj_bm]); try rfl)⟩
    · have hq2 := hq1; rw [hx3] at hq2; simp only [rq_bx] at hq2
      refine rj_aload_n 0 dX11_lose_12 rfl rfl ?_
      refine rj_cV (rest := []) (sX11_beginChange (g := g) (ω := ω) hω μ   (hq2).1) gX11_lose_X11_beginChange (rj_lt hω (k := 0) rfl) (rj_sh hω ly_0) rfl rfl hVX11_beginChange ⟨Nat.le_of_ble_eq_true rfl, Nat.le_of_ble_eq_true rfl⟩ dX11_lose_13 rfl rfl rfl (Nat.le_of_ble_eq_true rfl) rfl (Nat.le_of_ble_eq_true rfl) rfl ?_
      refine rj_aload_n 0 dX11_lose_16 rfl rfl ?_
      refine rj_getR (C0 := RX11) (T := TX11) (N := 6) (j := 0) (r := 1) dX11_lose_17 rfl vX11_lose_11 rfl (rj_lt hω (k := 0) rfl) (rj_sh hω ly_0) (by decide) kX11_lose_12 rfl ?_
      refine rj_getR (C0 := RX5) (T := TX5) (N := 8) (j := 1) (r := 3) dX11_lose_20 rfl vX11_lose_5 rfl (rj_lt hω (k := 1) rfl) (rj_sh hω ly_1) (by decide) kX11_lose_22 rfl ?_
      refine rj_getR (C0 := RX4) (T := TX4) (N := 4) (j := 3) (r := 7) dX11_lose_23 rfl vX11_lose_4 rfl (rj_lt hω (k := 3) rfl) (rj_sh hω ly_3) (by decide) kX11_lose_258 rfl ?_
      refine rj_iload_n 1 dX11_lose_26 rfl rfl ?_
      refine rj_iload_n 2 dX11_lose_27 rfl rfl ?_
      refine rj_cS (rest := []) (sX11_replace (g := g) (ω := ω) (mX11_beginChange μ) 7 100 a0 a1 (rj_lt hω (k := 7) rfl) (rj_sh hω ly_7) (rj_bl rfl)  ) gX11_lose_X11_replace rfl hSX11_replace ⟨Nat.le_of_ble_eq_true rfl, Nat.le_of_ble_eq_true rfl⟩ dX11_lose_28 rfl rfl rfl (Nat.le_of_ble_eq_true rfl) rfl (Nat.le_of_ble_eq_true rfl) rfl ?_
      refine rj_pop dX11_lose_31 rfl rfl ?_
      refine rj_aload_n 0 dX11_lose_32 rfl rfl ?_
      refine rj_getR (C0 := RX11) (T := TX11) (N := 6) (j := 0) (r := 1) dX11_lose_33 rfl vX11_lose_11 rfl (rj_lt hω (k := 0) rfl) (rj_sh hω ly_0) (by decide) kX11_lose_12 rfl ?_
      refine rj_getR (C0 := RX5) (T := TX5) (N := 8) (j := 1) (r := 3) dX11_lose_36 rfl vX11_lose_5 rfl (rj_lt hω (k := 1) rfl) (rj_sh hω ly_1) (by decide) kX11_lose_22 rfl ?_
      refine rj_cV (rest := []) (sX4_countLost (g := g) (ω := ω) hω (mX11_replace (mX11_beginChange μ) 7 100 a0 a1)   ) gX11_lose_X4_countLost (rj_lt hω (k := 3) rfl) (rj_sh hω ly_3) rfl rfl hVX4_countLost ⟨Nat.le_of_ble_eq_true rfl, Nat.le_of_ble_eq_true rfl⟩ dX11_lose_39 rfl rfl rfl (Nat.le_of_ble_eq_true rfl) rfl (Nat.le_of_ble_eq_true rfl) rfl ?_
      exact rj_iret dX11_lose_42 rfl (Nat.le_of_ble_eq_true rfl) (Nat.le_of_ble_eq_true rfl) ⟨(by unfold fX11_lose; try (rw [hx1]); try (simp only [rj_bx]); try (rw [hx3]); try (simp only [rj_bx]); try rfl), rfl, (by unfold mX11_lose; try (rw [hx1]); try (simp only [rj_bm]); try (rw [hx3]); try (simp only [rj_bm]); try rfl)⟩
theorem hSX11_find : yX11_find.cls ≠ "java/lang/invoke/MethodHandle" ∧ yX11_find.cls ≠ "java/lang/invoke/VarHandle" ∧ (parseMethodDescriptor yX11_find.desc).map (fun d => d.parameters.length) = some 1 := by decide +kernel
theorem hVX11_find : yX11_find.cls = RX11 ∧ yX11_find.cls ≠ "java/lang/invoke/MethodHandle" ∧ yX11_find.cls ≠ "java/lang/invoke/VarHandle" ∧ (parseMethodDescriptor yX11_find.desc).map (fun d => d.parameters.length) = some 1 := by decide +kernel
theorem vX11_find_11 : ∀ w ∈ u_ws RX11 TX11 6, w ∈ wsX11_find := by decide +kernel
theorem kX11_find_12 : Cond.fieldLink RX11 12 (TX11 0).1 (TX11 0).2.1 (TX11 0).2.2.1 ∈ wsX11_find := by decide +kernel
theorem vX11_find_5 : ∀ w ∈ u_ws RX5 TX5 8, w ∈ wsX11_find := by decide +kernel
theorem kX11_find_22 : Cond.fieldLink RX11 22 (TX5 1).1 (TX5 1).2.1 (TX5 1).2.2.1 ∈ wsX11_find := by decide +kernel
theorem vX11_find_4 : ∀ w ∈ u_ws RX4 TX4 4, w ∈ wsX11_find := by decide +kernel
theorem kX11_find_258 : Cond.fieldLink RX11 258 (TX4 3).1 (TX4 3).2.1 (TX4 3).2.2.1 ∈ wsX11_find := by decide +kernel
theorem xkX11_find_267 : Cond.classLink RX11 267 "java/util/NoSuchElementException" ∈ wsX11_find := by decide +kernel
theorem xiX11_find_267 : Cond.initialized "java/util/NoSuchElementException" ∈ wsX11_find := by decide +kernel
theorem xaX11_find_271 : ∀ w ∈ (vx_wdN).filter goodWord, w ∈ wsX11_find := by decide +kernel
theorem xbX11_find_271 : ∀ w ∈ (vx_wdN).filter (fun w => !goodWord w), w ∈ Cond.castable "java/util/NoSuchElementException" "java/util/NoSuchElementException" :: rj_dc.map Cond.declares := by decide +kernel
theorem xgX11_find_271 : ∀ w ∈ Cond.classLink RX11 267 "java/util/NoSuchElementException" :: Cond.initialized "java/util/NoSuchElementException" :: vx_wdN, vx_ot w = true := by decide +kernel
def fX11_find (μ : rj_M) (a0 : Int32) : Int32 ⊕ String := (if a0 = (-1) then (if (fX4_firstLost μ a0) = (-1) then (.inr "java/util/NoSuchElementException") else (.inl (fX4_firstLost μ a0))) else (rj_bx (fX11_needPlace μ a0 4) (if (fX4_firstLost μ a0) = (-1) then (.inr "java/util/NoSuchElementException") else (.inl (fX4_firstLost μ a0)))))
def mX11_find (μ : rj_M) (a0 : Int32) : rj_M := (if a0 = (-1) then (if (fX4_firstLost μ a0) = (-1) then μ else (mX11_replace (mX11_beginChange μ) 7 100 (fX4_firstLost μ a0) (-1))) else (rj_bm (fX11_needPlace μ a0 4) (if (fX4_firstLost μ a0) = (-1) then μ else (mX11_replace (mX11_beginChange μ) 7 100 (fX4_firstLost μ a0) (-1))) μ))
def qX11_find (μ : rj_M) (a0 : Int32) : Prop := (if a0 = (-1) then (if (fX4_firstLost μ a0) = (-1) then True else (qX11_beginChange μ ∧ True)) else (rq_bx (fX11_needPlace μ a0 4) (if (fX4_firstLost μ a0) = (-1) then True else (qX11_beginChange μ ∧ True))))
set_option maxHeartbeats 40000000 in
set_option maxRecDepth 100000 in
theorem sX11_find {g : rj_G} {ω : rj_W} (hω : rj_ok ω) (μ : rj_M) (a0 : Int32)   (hq : qX11_find μ a0) : rj_Sp g yX11_find wsX11_find (rj_rm 7 2) [.ref (ω.2.2 0), .int a0] ω μ (rj_D (rj_oi (fX11_find μ a0)) ω (mX11_find μ a0)) := by
  have hqa := hq
  unfold qX11_find at hqa
  refine rj_of' (cc := cX11_find) (nL := 3) (ret := (some .int)) (own := RX11) (l0 := [(0, .ref (ω.2.2 0)), (1, .int a0)]) rfl (by decide +kernel) rfl (Nat.le_of_ble_eq_true rfl) rfl ?_
  refine rj_iload_n 1 dX11_find_0 rfl rfl ?_
  refine rj_iconst (v := (-1)) dX11_find_1 rfl (by decide) ?_
  refine rj_icmp_eq dX11_find_2 rfl rfl (fun h1 => ?_) (fun h1 => ?_)
  · have hq1 := hqa; rw [if_pos h1] at hq1
    refine rj_aload_n 0 dX11_find_10 rfl rfl ?_
    refine rj_getR (C0 := RX11) (T := TX11) (N := 6) (j := 0) (r := 1) dX11_find_11 rfl vX11_find_11 rfl (rj_lt hω (k := 0) rfl) (rj_sh hω ly_0) (by decide) kX11_find_12 rfl ?_
    refine rj_getR (C0 := RX5) (T := TX5) (N := 8) (j := 1) (r := 3) dX11_find_14 rfl vX11_find_5 rfl (rj_lt hω (k := 1) rfl) (rj_sh hω ly_1) (by decide) kX11_find_22 rfl ?_
    refine rj_iload_n 1 dX11_find_17 rfl rfl ?_
    refine rj_cV (rest := []) (sX4_firstLost (g := g) (ω := ω) hω μ a0   ) gX11_find_X4_firstLost (rj_lt hω (k := 3) rfl) (rj_sh hω ly_3) rfl rfl hVX4_firstLost ⟨Nat.le_of_ble_eq_true rfl, Nat.le_of_ble_eq_true rfl⟩ dX11_find_18 rfl rfl rfl (Nat.le_of_ble_eq_true rfl) rfl (Nat.le_of_ble_eq_true rfl) rfl ?_
    refine rj_istore_n (l' := [(2, .int (fX4_firstLost μ a0)), (0, .ref (ω.2.2 0)), (1, .int a0)]) dX11_find_21 rfl (rj_bl rfl) rfl ?_
    refine rj_iload_n 0 dX11_find_22 rfl rfl ?_
    refine rj_iconst (v := (-1)) dX11_find_23 rfl (by decide) ?_
    refine rj_icmp_ne dX11_find_24 rfl rfl (fun h2 => ?_) (fun h2 => ?_)
    · have hq2 := hq1; rw [if_neg h2] at hq2
      refine rj_aload_n 1 dX11_find_38 rfl rfl ?_
      refine rj_cV (rest := []) (sX11_beginChange (g := g) (ω := ω) hω μ   (hq2).1) gX11_find_X11_beginChange (rj_lt hω (k := 0) rfl) (rj_sh hω ly_0) rfl rfl hVX11_beginChange ⟨Nat.le_of_ble_eq_true rfl, Nat.le_of_ble_eq_true rfl⟩ dX11_find_39 rfl rfl rfl (Nat.le_of_ble_eq_true rfl) rfl (Nat.le_of_ble_eq_true rfl) rfl ?_
      refine rj_aload_n 1 dX11_find_42 rfl rfl ?_
      refine rj_getR (C0 := RX11) (T := TX11) (N := 6) (j := 0) (r := 1) dX11_find_43 rfl vX11_find_11 rfl (rj_lt hω (k := 0) rfl) (rj_sh hω ly_0) (by decide) kX11_find_12 rfl ?_
      refine rj_getR (C0 := RX5) (T := TX5) (N := 8) (j := 1) (r := 3) dX11_find_46 rfl vX11_find_5 rfl (rj_lt hω (k := 1) rfl) (rj_sh hω ly_1) (by decide) kX11_find_22 rfl ?_
      refine rj_getR (C0 := RX4) (T := TX4) (N := 4) (j := 3) (r := 7) dX11_find_49 rfl vX11_find_4 rfl (rj_lt hω (k := 3) rfl) (rj_sh hω ly_3) (by decide) kX11_find_258 rfl ?_
      refine rj_iload_n 0 dX11_find_52 rfl rfl ?_
      refine rj_iconst (v := (-1)) dX11_find_53 rfl (by decide) ?_
      refine rj_cS (rest := []) (sX11_replace (g := g) (ω := ω) (mX11_beginChange μ) 7 100 (fX4_firstLost μ a0) (-1) (rj_lt hω (k := 7) rfl) (rj_sh hω ly_7) (rj_bl rfl)  ) gX11_find_X11_replace rfl hSX11_replace ⟨Nat.le_of_ble_eq_true rfl, Nat.le_of_ble_eq_true rfl⟩ dX11_find_54 rfl rfl rfl (Nat.le_of_ble_eq_true rfl) rfl (Nat.le_of_ble_eq_true rfl) rfl ?_
      refine rj_pop dX11_find_57 rfl rfl ?_
      refine rj_iload_n 0 dX11_find_58 rfl rfl ?_
      exact rj_iret dX11_find_59 rfl (Nat.le_of_ble_eq_true rfl) (Nat.le_of_ble_eq_true rfl) ⟨(by unfold fX11_find; rw [if_pos h1]; rw [if_neg h2]; try rfl), rfl, (by unfold mX11_find; rw [if_pos h1]; rw [if_neg h2]; try rfl)⟩
    · have hq3 := hq1; rw [if_pos h2] at hq3
      exact rj_throwN (text := "no such thing is lost") dX11_find_27 rfl dX11_find_30 rfl dX11_find_31 rfl dX11_find_34 rfl dX11_find_37 (by decide +kernel) xkX11_find_267 xiX11_find_267 (by decide +kernel) xaX11_find_271 xbX11_find_271 (by decide) xgX11_find_271 (Nat.le_of_ble_eq_true rfl) (Nat.le_of_ble_eq_true rfl) (Nat.le_of_ble_eq_true rfl) ⟨(by unfold fX11_find; rw [if_pos h1]; rw [if_pos h2]; try rfl), rfl, (by unfold mX11_find; rw [if_pos h1]; rw [if_pos h2]; try rfl)⟩
  · have hq4 := hqa; rw [if_neg h1] at hq4
    refine rj_iload_n 1 dX11_find_5 rfl rfl ?_
    refine rj_iconst (v := 4) dX11_find_6 rfl (by decide) ?_
    refine rj_cSx (rest := []) (sX11_needPlace (g := g) (ω := ω) hω μ a0 4   ) gX11_find_X11_needPlace rfl hSX11_needPlace ⟨Nat.le_of_ble_eq_true rfl, Nat.le_of_ble_eq_true rfl⟩ dX11_find_7 rfl rfl rfl (Nat.le_of_ble_eq_true rfl) rfl (Nat.le_of_ble_eq_true rfl) (fun E hE4 => ?_) (fun hx3 => ?_)
    · exact ⟨(by unfold fX11_find; try (rw [if_neg h1]); try (rw [hE4]); try (simp only [rj_bx]); try rfl), rfl, (by unfold mX11_find; try (rw [if_neg h1]); try (rw [hE4]); try (simp only [rj_bm]); try rfl)⟩
    · have hq5 := hq4; rw [hx3] at hq5; simp only [rq_bx] at hq5
      refine rj_aload_n 0 dX11_find_10 rfl rfl ?_
      refine rj_getR (C0 := RX11) (T := TX11) (N := 6) (j := 0) (r := 1) dX11_find_11 rfl vX11_find_11 rfl (rj_lt hω (k := 0) rfl) (rj_sh hω ly_0) (by decide) kX11_find_12 rfl ?_
      refine rj_getR (C0 := RX5) (T := TX5) (N := 8) (j := 1) (r := 3) dX11_find_14 rfl vX11_find_5 rfl (rj_lt hω (k := 1) rfl) (rj_sh hω ly_1) (by decide) kX11_find_22 rfl ?_
      refine rj_iload_n 1 dX11_find_17 rfl rfl ?_
      refine rj_cV (rest := []) (sX4_firstLost (g := g) (ω := ω) hω μ a0   ) gX11_find_X4_firstLost (rj_lt hω (k := 3) rfl) (rj_sh hω ly_3) rfl rfl hVX4_firstLost ⟨Nat.le_of_ble_eq_true rfl, Nat.le_of_ble_eq_true rfl⟩ dX11_find_18 rfl rfl rfl (Nat.le_of_ble_eq_true rfl) rfl (Nat.le_of_ble_eq_true rfl) rfl ?_
      refine rj_istore_n (l' := [(2, .int (fX4_firstLost μ a0)), (0, .ref (ω.2.2 0)), (1, .int a0)]) dX11_find_21 rfl (rj_bl rfl) rfl ?_
      refine rj_iload_n 0 dX11_find_22 rfl rfl ?_
      refine rj_iconst (v := (-1)) dX11_find_23 rfl (by decide) ?_
      refine rj_icmp_ne dX11_find_24 rfl rfl (fun h5 => ?_) (fun h5 => ?_)
      · have hq6 := hq5; rw [if_neg h5] at hq6
        refine rj_aload_n 1 dX11_find_38 rfl rfl ?_
        refine rj_cV (rest := []) (sX11_beginChange (g := g) (ω := ω) hω μ   (hq6).1) gX11_find_X11_beginChange (rj_lt hω (k := 0) rfl) (rj_sh hω ly_0) rfl rfl hVX11_beginChange ⟨Nat.le_of_ble_eq_true rfl, Nat.le_of_ble_eq_true rfl⟩ dX11_find_39 rfl rfl rfl (Nat.le_of_ble_eq_true rfl) rfl (Nat.le_of_ble_eq_true rfl) rfl ?_
        refine rj_aload_n 1 dX11_find_42 rfl rfl ?_
        refine rj_getR (C0 := RX11) (T := TX11) (N := 6) (j := 0) (r := 1) dX11_find_43 rfl vX11_find_11 rfl (rj_lt hω (k := 0) rfl) (rj_sh hω ly_0) (by decide) kX11_find_12 rfl ?_
        refine rj_getR (C0 := RX5) (T := TX5) (N := 8) (j := 1) (r := 3) dX11_find_46 rfl vX11_find_5 rfl (rj_lt hω (k := 1) rfl) (rj_sh hω ly_1) (by decide) kX11_find_22 rfl ?_
        refine rj_getR (C0 := RX4) (T := TX4) (N := 4) (j := 3) (r := 7) dX11_find_49 rfl vX11_find_4 rfl (rj_lt hω (k := 3) rfl) (rj_sh hω ly_3) (by decide) kX11_find_258 rfl ?_
        refine rj_iload_n 0 dX11_find_52 rfl rfl ?_
        refine rj_iconst (v := (-1)) dX11_find_53 rfl (by decide) ?_
        refine rj_cS (rest := []) (sX11_replace (g := g) (ω := ω) (mX11_beginChange μ) 7 100 (fX4_firstLost μ a0) (-1) (rj_lt hω (k := 7) rfl) (rj_sh hω ly_7) (rj_bl rfl)  ) gX11_find_X11_replace rfl hSX11_replace ⟨Nat.le_of_ble_eq_true rfl, Nat.le_of_ble_eq_true rfl⟩ dX11_find_54 rfl rfl rfl (Nat.le_of_ble_eq_true rfl) rfl (Nat.le_of_ble_eq_true rfl) rfl ?_
        refine rj_pop dX11_find_57 rfl rfl ?_
        refine rj_iload_n 0 dX11_find_58 rfl rfl ?_
        exact rj_iret dX11_find_59 rfl (Nat.le_of_ble_eq_true rfl) (Nat.le_of_ble_eq_true rfl) ⟨(by unfold fX11_find; try (rw [if_neg h1]); try (rw [hx3]); try (simp only [rj_bx]); try (rw [if_neg h5]); try rfl), rfl, (by unfold mX11_find; try (rw [if_neg h1]); try (rw [hx3]); try (simp only [rj_bm]); try (rw [if_neg h5]); try rfl)⟩
      · have hq7 := hq5; rw [if_pos h5] at hq7
        exact rj_throwN (text := "no such thing is lost") dX11_find_27 rfl dX11_find_30 rfl dX11_find_31 rfl dX11_find_34 rfl dX11_find_37 (by decide +kernel) xkX11_find_267 xiX11_find_267 (by decide +kernel) xaX11_find_271 xbX11_find_271 (by decide) xgX11_find_271 (Nat.le_of_ble_eq_true rfl) (Nat.le_of_ble_eq_true rfl) (Nat.le_of_ble_eq_true rfl) ⟨(by unfold fX11_find; try (rw [if_neg h1]); try (rw [hx3]); try (simp only [rj_bx]); try (rw [if_pos h5]); try rfl), rfl, (by unfold mX11_find; try (rw [if_neg h1]); try (rw [hx3]); try (simp only [rj_bm]); try (rw [if_pos h5]); try rfl)⟩
