theorem hSX12_waitNow : yX12_waitNow.cls ≠ "java/lang/invoke/MethodHandle" ∧ yX12_waitNow.cls ≠ "java/lang/invoke/VarHandle" ∧ (parseMethodDescriptor yX12_waitNow.desc).map (fun d => d.parameters.length) = some 1 := by decide +kernel
theorem hVX12_waitNow : yX12_waitNow.cls = RX12 ∧ yX12_waitNow.cls ≠ "java/lang/invoke/MethodHandle" ∧ yX12_waitNow.cls ≠ "java/lang/invoke/VarHandle" ∧ (parseMethodDescriptor yX12_waitNow.desc).map (fun d => d.parameters.length) = some 1 := by decide +kernel
noncomputable def bX12_waitNow_8 (μ : rj_M) (a0 : Int32) (s8 : Int32) : Int32 ⊕ Int32 := (if (fX12_barOf μ a0) = (-1) then .inr s8 else (if (fX12_inLine μ (fX12_barOf μ a0) s8) = a0 then .inr s8 else .inl (s8 + 1)))
noncomputable def qX12_waitNow_8 (μ : rj_M) (a0 : Int32) (s8 : Int32) : Prop := ((((fX12_barOf μ a0) = (-1)) → True) ∧ ((¬ ((fX12_barOf μ a0) = (-1))) → (vp_in (fX12_barOf μ a0) 3 ∧ vp_in s8 12 ∧ True)))
set_option maxHeartbeats 4000000 in
set_option maxRecDepth 100000 in
theorem lX12_waitNow_8 {g : rj_G} {ω : rj_W} (hω : rj_ok ω) (μ : rj_M) (a0 : Int32)     {F : rj_F} : ∀ (r : Nat) (s : Int32), (True → ra_we (qX12_waitNow_8 μ a0) (bX12_waitNow_8 μ a0) r s) → (rj_R g RX12 cX12_waitNow 4 (some .int) wsX12_waitNow [] (rj_rm 2 0) F 0 ω μ [(0, .ref (ω.2.2 395)), (1, .int a0), (2, .int (fX12_barOf μ a0)), (3, .int (rj_we (bX12_waitNow_8 μ a0) r s))] 29 []) → rj_R g RX12 cX12_waitNow 4 (some .int) wsX12_waitNow [] (rj_rm 2 0) F 0 ω μ [(0, .ref (ω.2.2 395)), (1, .int a0), (2, .int (fX12_barOf μ a0)), (3, .int s)] 8 [] := by
  intro r
  induction r with
  | zero =>
    intro s hq0 K
    exact (ra_we_0 (hq0 True.intro)).elim
  | succ r ih =>
    intro s8 hq0 K
    have hqa := ra_we_q (hq0 True.intro)
    unfold qX12_waitNow_8 at hqa
    refine rj_iload_n 2 dX12_waitNow_8 rfl rfl ?_
    refine rj_iconst (v := (-1)) dX12_waitNow_9 rfl (by decide) ?_
    refine rj_icmp_eq dX12_waitNow_10 rfl rfl (fun h1 => ?_) (fun h1 => ?_)
    · skip
      have e : bX12_waitNow_8 μ a0 s8 = .inr s8 := by unfold bX12_waitNow_8; rw [if_pos h1]; try rfl
      exact rj_sub (l' := [(0, .ref (ω.2.2 395)), (1, .int a0), (2, .int (fX12_barOf μ a0)), (3, .int s8)]) [0, 1, 2, 3] rfl (by rw [rj_we_r e] at K; exact K)
    · have hq2 := (And.right hqa) h1
      refine rj_aload_n 0 dX12_waitNow_13 rfl rfl ?_
      refine rj_iload_n 2 dX12_waitNow_14 rfl rfl ?_
      refine rj_iload_n 3 dX12_waitNow_15 rfl rfl ?_
      refine rj_cV (rest := []) (sX12_inLine (g := g) (ω := ω) hω μ (fX12_barOf μ a0) s8  (And.left hq2) (And.left (And.right hq2)) ) gX12_waitNow_X12_inLine (rj_lt hω (k := 395) rfl) (rj_sh hω ly_395) rfl rfl hVX12_inLine ⟨Nat.le_of_ble_eq_true rfl, Nat.le_of_ble_eq_true rfl⟩ dX12_waitNow_16 rfl rfl rfl (Nat.le_of_ble_eq_true rfl) rfl (Nat.le_of_ble_eq_true rfl) rfl ?_
      refine rj_iload_n 1 dX12_waitNow_19 rfl rfl ?_
      refine rj_icmp_eq dX12_waitNow_20 rfl rfl (fun h2 => ?_) (fun h2 => ?_)
      · skip
        have e : bX12_waitNow_8 μ a0 s8 = .inr s8 := by unfold bX12_waitNow_8; rw [if_neg h1]; rw [if_pos h2]; try rfl
        exact rj_sub (l' := [(0, .ref (ω.2.2 395)), (1, .int a0), (2, .int (fX12_barOf μ a0)), (3, .int s8)]) [0, 1, 2, 3] rfl (by rw [rj_we_r e] at K; exact K)
      · skip
        refine rj_iinc (v := s8 + 1) (l' := [(3, .int (s8 + 1)), (0, .ref (ω.2.2 395)), (1, .int a0), (2, .int (fX12_barOf μ a0))]) 3 dX12_waitNow_23 rfl rfl rfl (rj_bl rfl) rfl ?_
        refine rj_goto dX12_waitNow_26 rfl ?_
        have e : bX12_waitNow_8 μ a0 s8 = .inl (s8 + 1) := by unfold bX12_waitNow_8; rw [if_neg h1]; rw [if_neg h2]; try rfl
        exact rj_sub (l' := [(0, .ref (ω.2.2 395)), (1, .int a0), (2, .int (fX12_barOf μ a0)), (3, .int (s8 + 1))]) [1, 2, 3, 0] rfl (ih (s8 + 1) (fun _ => ra_we_n (hq0 True.intro) e) (by rw [rj_we_l e] at K; exact K))
noncomputable def fX12_waitNow (μ : rj_M) (a0 : Int32) : Int32 := (if (fX12_barOf μ a0) = (-1) then (-1) else (fX12_waitAt μ (fX12_barOf μ a0) (rj_we (bX12_waitNow_8 μ a0) 14 0)))
noncomputable def qX12_waitNow (μ : rj_M) (a0 : Int32) : Prop := (qX12_barOf μ a0 ∧ ((True → ra_we (qX12_waitNow_8 μ a0) (bX12_waitNow_8 μ a0) 14 0) ∧ ((((fX12_barOf μ a0) = (-1)) → True) ∧ ((¬ ((fX12_barOf μ a0) = (-1))) → (vp_in (fX12_barOf μ a0) 3 ∧ True)))))
set_option maxHeartbeats 40000000 in
set_option maxRecDepth 100000 in
theorem sX12_waitNow {g : rj_G} {ω : rj_W} (hω : rj_ok ω) (μ : rj_M) (a0 : Int32)   (hq : qX12_waitNow μ a0) : rj_Sp g yX12_waitNow wsX12_waitNow (rj_rm 2 0) [.ref (ω.2.2 395), .int a0] ω μ (rj_D (.inl (some (.int (fX12_waitNow μ a0)))) ω μ) := by
  have hqa := hq
  unfold qX12_waitNow at hqa
  refine rj_of' (cc := cX12_waitNow) (nL := 4) (ret := (some .int)) (own := RX12) (l0 := [(0, .ref (ω.2.2 395)), (1, .int a0)]) rfl (by decide +kernel) rfl (Nat.le_of_ble_eq_true rfl) rfl ?_
  refine rj_aload_n 0 dX12_waitNow_0 rfl rfl ?_
  refine rj_iload_n 1 dX12_waitNow_1 rfl rfl ?_
  refine rj_cV (rest := []) (sX12_barOf (g := g) (ω := ω) hω μ a0   (And.left hqa)) gX12_waitNow_X12_barOf (rj_lt hω (k := 395) rfl) (rj_sh hω ly_395) rfl rfl hVX12_barOf ⟨Nat.le_of_ble_eq_true rfl, Nat.le_of_ble_eq_true rfl⟩ dX12_waitNow_2 rfl rfl rfl (Nat.le_of_ble_eq_true rfl) rfl (Nat.le_of_ble_eq_true rfl) rfl ?_
  refine rj_istore_n (l' := [(2, .int (fX12_barOf μ a0)), (0, .ref (ω.2.2 395)), (1, .int a0)]) dX12_waitNow_5 rfl (rj_bl rfl) rfl ?_
  refine rj_iconst (v := 0) dX12_waitNow_6 rfl (by decide) ?_
  refine rj_istore_n (l' := [(3, .int 0), (2, .int (fX12_barOf μ a0)), (0, .ref (ω.2.2 395)), (1, .int a0)]) dX12_waitNow_7 rfl (rj_bl rfl) rfl ?_
  refine rj_sub (l' := [(0, .ref (ω.2.2 395)), (1, .int a0), (2, .int (fX12_barOf μ a0)), (3, .int 0)]) [2, 3, 1, 0] rfl ?_
  refine lX12_waitNow_8 hω μ a0     14 0 (And.left (And.right hqa)) ?_
  refine rj_iload_n 2 dX12_waitNow_29 rfl rfl ?_
  refine rj_iconst (v := (-1)) dX12_waitNow_30 rfl (by decide) ?_
  refine rj_icmp_ne dX12_waitNow_31 rfl rfl (fun h3 => ?_) (fun h3 => ?_)
  · have hq5 := (And.right (And.right (And.right hqa))) h3
    refine rj_aload_n 0 dX12_waitNow_38 rfl rfl ?_
    refine rj_iload_n 2 dX12_waitNow_39 rfl rfl ?_
    refine rj_iload_n 3 dX12_waitNow_40 rfl rfl ?_
    refine rj_cV (rest := []) (sX12_waitAt (g := g) (ω := ω) hω μ (fX12_barOf μ a0) (rj_we (bX12_waitNow_8 μ a0) 14 0)  (And.left hq5) ) gX12_waitNow_X12_waitAt (rj_lt hω (k := 395) rfl) (rj_sh hω ly_395) rfl rfl hVX12_waitAt ⟨Nat.le_of_ble_eq_true rfl, Nat.le_of_ble_eq_true rfl⟩ dX12_waitNow_41 rfl rfl rfl (Nat.le_of_ble_eq_true rfl) rfl (Nat.le_of_ble_eq_true rfl) rfl ?_
    exact rj_iret dX12_waitNow_44 rfl (Nat.le_of_ble_eq_true rfl) (Nat.le_of_ble_eq_true rfl) ⟨(by unfold fX12_waitNow; rw [if_neg h3]; try rfl), rfl, rfl⟩
  · skip
    refine rj_iconst (v := (-1)) dX12_waitNow_34 rfl (by decide) ?_
    refine rj_goto dX12_waitNow_35 rfl ?_
    exact rj_iret dX12_waitNow_44 rfl (Nat.le_of_ble_eq_true rfl) (Nat.le_of_ble_eq_true rfl) ⟨(by unfold fX12_waitNow; rw [if_pos h3]; try rfl), rfl, rfl⟩
theorem hSX12_join : yX12_join.cls ≠ "java/lang/invoke/MethodHandle" ∧ yX12_join.cls ≠ "java/lang/invoke/VarHandle" ∧ (parseMethodDescriptor yX12_join.desc).map (fun d => d.parameters.length) = some 2 := by decide +kernel
theorem hVX12_join : yX12_join.cls = RX12 ∧ yX12_join.cls ≠ "java/lang/invoke/MethodHandle" ∧ yX12_join.cls ≠ "java/lang/invoke/VarHandle" ∧ (parseMethodDescriptor yX12_join.desc).map (fun d => d.parameters.length) = some 2 := by decide +kernel
theorem vX12_join_12 : ∀ w ∈ u_ws RX12 TX12 16, w ∈ wsX12_join := by decide +kernel
theorem kX12_join_9 : Cond.fieldLink RX12 9 (TX12 1).1 (TX12 1).2.1 (TX12 1).2.2.1 ∈ wsX12_join := by decide +kernel
noncomputable def fX12_join (μ : rj_M) (a0 : Int32) (a1 : Int32) : Int32 := (if (fX12_isBar μ a0) = 0 then 0 else (if (fX12_isVisitor μ a1) = 0 then 0 else (if (fX12_barOf (mX12_lacksT μ) a1) = (-1) then (if (fX12_lineOf (mX12_keeps (mX12_lacksT μ)) a0) = 0 then (fX12_waitNow (rj_pi (rj_pi (rj_pi (rj_pi (rj_pi (mX12_keeps (mX12_lacksT μ)) 396 (370 + a0).toNatClampNeg ((mX12_keeps (mX12_lacksT μ)).1 396 (330 : Int32).toNatClampNeg)) 396 (((331 + (13 * a0)) + 1) + (fX12_lineOf (rj_pi (mX12_keeps (mX12_lacksT μ)) 396 (370 + a0).toNatClampNeg ((mX12_keeps (mX12_lacksT μ)).1 396 (330 : Int32).toNatClampNeg)) a0)).toNatClampNeg a1) 396 (331 + (13 * a0)).toNatClampNeg (((rj_pi (rj_pi (mX12_keeps (mX12_lacksT μ)) 396 (370 + a0).toNatClampNeg ((mX12_keeps (mX12_lacksT μ)).1 396 (330 : Int32).toNatClampNeg)) 396 (((331 + (13 * a0)) + 1) + (fX12_lineOf (rj_pi (mX12_keeps (mX12_lacksT μ)) 396 (370 + a0).toNatClampNeg ((mX12_keeps (mX12_lacksT μ)).1 396 (330 : Int32).toNatClampNeg)) a0)).toNatClampNeg a1).1 396 (331 + (13 * a0)).toNatClampNeg) + 1)) 396 (385 : Int32).toNatClampNeg (((rj_pi (rj_pi (rj_pi (mX12_keeps (mX12_lacksT μ)) 396 (370 + a0).toNatClampNeg ((mX12_keeps (mX12_lacksT μ)).1 396 (330 : Int32).toNatClampNeg)) 396 (((331 + (13 * a0)) + 1) + (fX12_lineOf (rj_pi (mX12_keeps (mX12_lacksT μ)) 396 (370 + a0).toNatClampNeg ((mX12_keeps (mX12_lacksT μ)).1 396 (330 : Int32).toNatClampNeg)) a0)).toNatClampNeg a1) 396 (331 + (13 * a0)).toNatClampNeg (((rj_pi (rj_pi (mX12_keeps (mX12_lacksT μ)) 396 (370 + a0).toNatClampNeg ((mX12_keeps (mX12_lacksT μ)).1 396 (330 : Int32).toNatClampNeg)) 396 (((331 + (13 * a0)) + 1) + (fX12_lineOf (rj_pi (mX12_keeps (mX12_lacksT μ)) 396 (370 + a0).toNatClampNeg ((mX12_keeps (mX12_lacksT μ)).1 396 (330 : Int32).toNatClampNeg)) a0)).toNatClampNeg a1).1 396 (331 + (13 * a0)).toNatClampNeg) + 1)).1 396 (385 : Int32).toNatClampNeg) + 1)) 396 (373 + a1).toNatClampNeg ((rj_pi (rj_pi (rj_pi (rj_pi (mX12_keeps (mX12_lacksT μ)) 396 (370 + a0).toNatClampNeg ((mX12_keeps (mX12_lacksT μ)).1 396 (330 : Int32).toNatClampNeg)) 396 (((331 + (13 * a0)) + 1) + (fX12_lineOf (rj_pi (mX12_keeps (mX12_lacksT μ)) 396 (370 + a0).toNatClampNeg ((mX12_keeps (mX12_lacksT μ)).1 396 (330 : Int32).toNatClampNeg)) a0)).toNatClampNeg a1) 396 (331 + (13 * a0)).toNatClampNeg (((rj_pi (rj_pi (mX12_keeps (mX12_lacksT μ)) 396 (370 + a0).toNatClampNeg ((mX12_keeps (mX12_lacksT μ)).1 396 (330 : Int32).toNatClampNeg)) 396 (((331 + (13 * a0)) + 1) + (fX12_lineOf (rj_pi (mX12_keeps (mX12_lacksT μ)) 396 (370 + a0).toNatClampNeg ((mX12_keeps (mX12_lacksT μ)).1 396 (330 : Int32).toNatClampNeg)) a0)).toNatClampNeg a1).1 396 (331 + (13 * a0)).toNatClampNeg) + 1)) 396 (385 : Int32).toNatClampNeg (((rj_pi (rj_pi (rj_pi (mX12_keeps (mX12_lacksT μ)) 396 (370 + a0).toNatClampNeg ((mX12_keeps (mX12_lacksT μ)).1 396 (330 : Int32).toNatClampNeg)) 396 (((331 + (13 * a0)) + 1) + (fX12_lineOf (rj_pi (mX12_keeps (mX12_lacksT μ)) 396 (370 + a0).toNatClampNeg ((mX12_keeps (mX12_lacksT μ)).1 396 (330 : Int32).toNatClampNeg)) a0)).toNatClampNeg a1) 396 (331 + (13 * a0)).toNatClampNeg (((rj_pi (rj_pi (mX12_keeps (mX12_lacksT μ)) 396 (370 + a0).toNatClampNeg ((mX12_keeps (mX12_lacksT μ)).1 396 (330 : Int32).toNatClampNeg)) 396 (((331 + (13 * a0)) + 1) + (fX12_lineOf (rj_pi (mX12_keeps (mX12_lacksT μ)) 396 (370 + a0).toNatClampNeg ((mX12_keeps (mX12_lacksT μ)).1 396 (330 : Int32).toNatClampNeg)) a0)).toNatClampNeg a1).1 396 (331 + (13 * a0)).toNatClampNeg) + 1)).1 396 (385 : Int32).toNatClampNeg) + 1)).1 396 (385 : Int32).toNatClampNeg)) a1) else (fX12_waitNow (rj_pi (rj_pi (rj_pi (rj_pi (mX12_keeps (mX12_lacksT μ)) 396 (((331 + (13 * a0)) + 1) + (fX12_lineOf (mX12_keeps (mX12_lacksT μ)) a0)).toNatClampNeg a1) 396 (331 + (13 * a0)).toNatClampNeg (((rj_pi (mX12_keeps (mX12_lacksT μ)) 396 (((331 + (13 * a0)) + 1) + (fX12_lineOf (mX12_keeps (mX12_lacksT μ)) a0)).toNatClampNeg a1).1 396 (331 + (13 * a0)).toNatClampNeg) + 1)) 396 (385 : Int32).toNatClampNeg (((rj_pi (rj_pi (mX12_keeps (mX12_lacksT μ)) 396 (((331 + (13 * a0)) + 1) + (fX12_lineOf (mX12_keeps (mX12_lacksT μ)) a0)).toNatClampNeg a1) 396 (331 + (13 * a0)).toNatClampNeg (((rj_pi (mX12_keeps (mX12_lacksT μ)) 396 (((331 + (13 * a0)) + 1) + (fX12_lineOf (mX12_keeps (mX12_lacksT μ)) a0)).toNatClampNeg a1).1 396 (331 + (13 * a0)).toNatClampNeg) + 1)).1 396 (385 : Int32).toNatClampNeg) + 1)) 396 (373 + a1).toNatClampNeg ((rj_pi (rj_pi (rj_pi (mX12_keeps (mX12_lacksT μ)) 396 (((331 + (13 * a0)) + 1) + (fX12_lineOf (mX12_keeps (mX12_lacksT μ)) a0)).toNatClampNeg a1) 396 (331 + (13 * a0)).toNatClampNeg (((rj_pi (mX12_keeps (mX12_lacksT μ)) 396 (((331 + (13 * a0)) + 1) + (fX12_lineOf (mX12_keeps (mX12_lacksT μ)) a0)).toNatClampNeg a1).1 396 (331 + (13 * a0)).toNatClampNeg) + 1)) 396 (385 : Int32).toNatClampNeg (((rj_pi (rj_pi (mX12_keeps (mX12_lacksT μ)) 396 (((331 + (13 * a0)) + 1) + (fX12_lineOf (mX12_keeps (mX12_lacksT μ)) a0)).toNatClampNeg a1) 396 (331 + (13 * a0)).toNatClampNeg (((rj_pi (mX12_keeps (mX12_lacksT μ)) 396 (((331 + (13 * a0)) + 1) + (fX12_lineOf (mX12_keeps (mX12_lacksT μ)) a0)).toNatClampNeg a1).1 396 (331 + (13 * a0)).toNatClampNeg) + 1)).1 396 (385 : Int32).toNatClampNeg) + 1)).1 396 (385 : Int32).toNatClampNeg)) a1)) else 0)))
noncomputable def mX12_join (μ : rj_M) (a0 : Int32) (a1 : Int32) : rj_M := (if (fX12_isBar μ a0) = 0 then (mX12_lacksF μ) else (if (fX12_isVisitor μ a1) = 0 then (mX12_lacksF μ) else (if (fX12_barOf (mX12_lacksT μ) a1) = (-1) then (if (fX12_lineOf (mX12_keeps (mX12_lacksT μ)) a0) = 0 then (rj_pi (rj_pi (rj_pi (rj_pi (rj_pi (mX12_keeps (mX12_lacksT μ)) 396 (370 + a0).toNatClampNeg ((mX12_keeps (mX12_lacksT μ)).1 396 (330 : Int32).toNatClampNeg)) 396 (((331 + (13 * a0)) + 1) + (fX12_lineOf (rj_pi (mX12_keeps (mX12_lacksT μ)) 396 (370 + a0).toNatClampNeg ((mX12_keeps (mX12_lacksT μ)).1 396 (330 : Int32).toNatClampNeg)) a0)).toNatClampNeg a1) 396 (331 + (13 * a0)).toNatClampNeg (((rj_pi (rj_pi (mX12_keeps (mX12_lacksT μ)) 396 (370 + a0).toNatClampNeg ((mX12_keeps (mX12_lacksT μ)).1 396 (330 : Int32).toNatClampNeg)) 396 (((331 + (13 * a0)) + 1) + (fX12_lineOf (rj_pi (mX12_keeps (mX12_lacksT μ)) 396 (370 + a0).toNatClampNeg ((mX12_keeps (mX12_lacksT μ)).1 396 (330 : Int32).toNatClampNeg)) a0)).toNatClampNeg a1).1 396 (331 + (13 * a0)).toNatClampNeg) + 1)) 396 (385 : Int32).toNatClampNeg (((rj_pi (rj_pi (rj_pi (mX12_keeps (mX12_lacksT μ)) 396 (370 + a0).toNatClampNeg ((mX12_keeps (mX12_lacksT μ)).1 396 (330 : Int32).toNatClampNeg)) 396 (((331 + (13 * a0)) + 1) + (fX12_lineOf (rj_pi (mX12_keeps (mX12_lacksT μ)) 396 (370 + a0).toNatClampNeg ((mX12_keeps (mX12_lacksT μ)).1 396 (330 : Int32).toNatClampNeg)) a0)).toNatClampNeg a1) 396 (331 + (13 * a0)).toNatClampNeg (((rj_pi (rj_pi (mX12_keeps (mX12_lacksT μ)) 396 (370 + a0).toNatClampNeg ((mX12_keeps (mX12_lacksT μ)).1 396 (330 : Int32).toNatClampNeg)) 396 (((331 + (13 * a0)) + 1) + (fX12_lineOf (rj_pi (mX12_keeps (mX12_lacksT μ)) 396 (370 + a0).toNatClampNeg ((mX12_keeps (mX12_lacksT μ)).1 396 (330 : Int32).toNatClampNeg)) a0)).toNatClampNeg a1).1 396 (331 + (13 * a0)).toNatClampNeg) + 1)).1 396 (385 : Int32).toNatClampNeg) + 1)) 396 (373 + a1).toNatClampNeg ((rj_pi (rj_pi (rj_pi (rj_pi (mX12_keeps (mX12_lacksT μ)) 396 (370 + a0).toNatClampNeg ((mX12_keeps (mX12_lacksT μ)).1 396 (330 : Int32).toNatClampNeg)) 396 (((331 + (13 * a0)) + 1) + (fX12_lineOf (rj_pi (mX12_keeps (mX12_lacksT μ)) 396 (370 + a0).toNatClampNeg ((mX12_keeps (mX12_lacksT μ)).1 396 (330 : Int32).toNatClampNeg)) a0)).toNatClampNeg a1) 396 (331 + (13 * a0)).toNatClampNeg (((rj_pi (rj_pi (mX12_keeps (mX12_lacksT μ)) 396 (370 + a0).toNatClampNeg ((mX12_keeps (mX12_lacksT μ)).1 396 (330 : Int32).toNatClampNeg)) 396 (((331 + (13 * a0)) + 1) + (fX12_lineOf (rj_pi (mX12_keeps (mX12_lacksT μ)) 396 (370 + a0).toNatClampNeg ((mX12_keeps (mX12_lacksT μ)).1 396 (330 : Int32).toNatClampNeg)) a0)).toNatClampNeg a1).1 396 (331 + (13 * a0)).toNatClampNeg) + 1)) 396 (385 : Int32).toNatClampNeg (((rj_pi (rj_pi (rj_pi (mX12_keeps (mX12_lacksT μ)) 396 (370 + a0).toNatClampNeg ((mX12_keeps (mX12_lacksT μ)).1 396 (330 : Int32).toNatClampNeg)) 396 (((331 + (13 * a0)) + 1) + (fX12_lineOf (rj_pi (mX12_keeps (mX12_lacksT μ)) 396 (370 + a0).toNatClampNeg ((mX12_keeps (mX12_lacksT μ)).1 396 (330 : Int32).toNatClampNeg)) a0)).toNatClampNeg a1) 396 (331 + (13 * a0)).toNatClampNeg (((rj_pi (rj_pi (mX12_keeps (mX12_lacksT μ)) 396 (370 + a0).toNatClampNeg ((mX12_keeps (mX12_lacksT μ)).1 396 (330 : Int32).toNatClampNeg)) 396 (((331 + (13 * a0)) + 1) + (fX12_lineOf (rj_pi (mX12_keeps (mX12_lacksT μ)) 396 (370 + a0).toNatClampNeg ((mX12_keeps (mX12_lacksT μ)).1 396 (330 : Int32).toNatClampNeg)) a0)).toNatClampNeg a1).1 396 (331 + (13 * a0)).toNatClampNeg) + 1)).1 396 (385 : Int32).toNatClampNeg) + 1)).1 396 (385 : Int32).toNatClampNeg)) else (rj_pi (rj_pi (rj_pi (rj_pi (mX12_keeps (mX12_lacksT μ)) 396 (((331 + (13 * a0)) + 1) + (fX12_lineOf (mX12_keeps (mX12_lacksT μ)) a0)).toNatClampNeg a1) 396 (331 + (13 * a0)).toNatClampNeg (((rj_pi (mX12_keeps (mX12_lacksT μ)) 396 (((331 + (13 * a0)) + 1) + (fX12_lineOf (mX12_keeps (mX12_lacksT μ)) a0)).toNatClampNeg a1).1 396 (331 + (13 * a0)).toNatClampNeg) + 1)) 396 (385 : Int32).toNatClampNeg (((rj_pi (rj_pi (mX12_keeps (mX12_lacksT μ)) 396 (((331 + (13 * a0)) + 1) + (fX12_lineOf (mX12_keeps (mX12_lacksT μ)) a0)).toNatClampNeg a1) 396 (331 + (13 * a0)).toNatClampNeg (((rj_pi (mX12_keeps (mX12_lacksT μ)) 396 (((331 + (13 * a0)) + 1) + (fX12_lineOf (mX12_keeps (mX12_lacksT μ)) a0)).toNatClampNeg a1).1 396 (331 + (13 * a0)).toNatClampNeg) + 1)).1 396 (385 : Int32).toNatClampNeg) + 1)) 396 (373 + a1).toNatClampNeg ((rj_pi (rj_pi (rj_pi (mX12_keeps (mX12_lacksT μ)) 396 (((331 + (13 * a0)) + 1) + (fX12_lineOf (mX12_keeps (mX12_lacksT μ)) a0)).toNatClampNeg a1) 396 (331 + (13 * a0)).toNatClampNeg (((rj_pi (mX12_keeps (mX12_lacksT μ)) 396 (((331 + (13 * a0)) + 1) + (fX12_lineOf (mX12_keeps (mX12_lacksT μ)) a0)).toNatClampNeg a1).1 396 (331 + (13 * a0)).toNatClampNeg) + 1)) 396 (385 : Int32).toNatClampNeg (((rj_pi (rj_pi (mX12_keeps (mX12_lacksT μ)) 396 (((331 + (13 * a0)) + 1) + (fX12_lineOf (mX12_keeps (mX12_lacksT μ)) a0)).toNatClampNeg a1) 396 (331 + (13 * a0)).toNatClampNeg (((rj_pi (mX12_keeps (mX12_lacksT μ)) 396 (((331 + (13 * a0)) + 1) + (fX12_lineOf (mX12_keeps (mX12_lacksT μ)) a0)).toNatClampNeg a1).1 396 (331 + (13 * a0)).toNatClampNeg) + 1)).1 396 (385 : Int32).toNatClampNeg) + 1)).1 396 (385 : Int32).toNatClampNeg))) else (mX12_noF (mX12_lacksT μ) 2))))
noncomputable def qX12_join (μ : rj_M) (a0 : Int32) (a1 : Int32) : Prop := ((((fX12_isBar μ a0) = 0) → True) ∧ ((¬ ((fX12_isBar μ a0) = 0)) → ((((fX12_isVisitor μ a1) = 0) → True) ∧ ((¬ ((fX12_isVisitor μ a1) = 0)) → (qX12_barOf (mX12_lacksT μ) a1 ∧ ((((fX12_barOf (mX12_lacksT μ) a1) = (-1)) → (qX12_keeps (mX12_lacksT μ) ∧ ((((fX12_lineOf (mX12_keeps (mX12_lacksT μ)) a0) = 0) → (vp_in (((331 + (13 * a0)) + 1) + (fX12_lineOf (rj_pi (mX12_keeps (mX12_lacksT μ)) 396 (370 + a0).toNatClampNeg ((mX12_keeps (mX12_lacksT μ)).1 396 (330 : Int32).toNatClampNeg)) a0)) 625 ∧ qX12_waitNow (rj_pi (rj_pi (rj_pi (rj_pi (rj_pi (mX12_keeps (mX12_lacksT μ)) 396 (370 + a0).toNatClampNeg ((mX12_keeps (mX12_lacksT μ)).1 396 (330 : Int32).toNatClampNeg)) 396 (((331 + (13 * a0)) + 1) + (fX12_lineOf (rj_pi (mX12_keeps (mX12_lacksT μ)) 396 (370 + a0).toNatClampNeg ((mX12_keeps (mX12_lacksT μ)).1 396 (330 : Int32).toNatClampNeg)) a0)).toNatClampNeg a1) 396 (331 + (13 * a0)).toNatClampNeg (((rj_pi (rj_pi (mX12_keeps (mX12_lacksT μ)) 396 (370 + a0).toNatClampNeg ((mX12_keeps (mX12_lacksT μ)).1 396 (330 : Int32).toNatClampNeg)) 396 (((331 + (13 * a0)) + 1) + (fX12_lineOf (rj_pi (mX12_keeps (mX12_lacksT μ)) 396 (370 + a0).toNatClampNeg ((mX12_keeps (mX12_lacksT μ)).1 396 (330 : Int32).toNatClampNeg)) a0)).toNatClampNeg a1).1 396 (331 + (13 * a0)).toNatClampNeg) + 1)) 396 (385 : Int32).toNatClampNeg (((rj_pi (rj_pi (rj_pi (mX12_keeps (mX12_lacksT μ)) 396 (370 + a0).toNatClampNeg ((mX12_keeps (mX12_lacksT μ)).1 396 (330 : Int32).toNatClampNeg)) 396 (((331 + (13 * a0)) + 1) + (fX12_lineOf (rj_pi (mX12_keeps (mX12_lacksT μ)) 396 (370 + a0).toNatClampNeg ((mX12_keeps (mX12_lacksT μ)).1 396 (330 : Int32).toNatClampNeg)) a0)).toNatClampNeg a1) 396 (331 + (13 * a0)).toNatClampNeg (((rj_pi (rj_pi (mX12_keeps (mX12_lacksT μ)) 396 (370 + a0).toNatClampNeg ((mX12_keeps (mX12_lacksT μ)).1 396 (330 : Int32).toNatClampNeg)) 396 (((331 + (13 * a0)) + 1) + (fX12_lineOf (rj_pi (mX12_keeps (mX12_lacksT μ)) 396 (370 + a0).toNatClampNeg ((mX12_keeps (mX12_lacksT μ)).1 396 (330 : Int32).toNatClampNeg)) a0)).toNatClampNeg a1).1 396 (331 + (13 * a0)).toNatClampNeg) + 1)).1 396 (385 : Int32).toNatClampNeg) + 1)) 396 (373 + a1).toNatClampNeg ((rj_pi (rj_pi (rj_pi (rj_pi (mX12_keeps (mX12_lacksT μ)) 396 (370 + a0).toNatClampNeg ((mX12_keeps (mX12_lacksT μ)).1 396 (330 : Int32).toNatClampNeg)) 396 (((331 + (13 * a0)) + 1) + (fX12_lineOf (rj_pi (mX12_keeps (mX12_lacksT μ)) 396 (370 + a0).toNatClampNeg ((mX12_keeps (mX12_lacksT μ)).1 396 (330 : Int32).toNatClampNeg)) a0)).toNatClampNeg a1) 396 (331 + (13 * a0)).toNatClampNeg (((rj_pi (rj_pi (mX12_keeps (mX12_lacksT μ)) 396 (370 + a0).toNatClampNeg ((mX12_keeps (mX12_lacksT μ)).1 396 (330 : Int32).toNatClampNeg)) 396 (((331 + (13 * a0)) + 1) + (fX12_lineOf (rj_pi (mX12_keeps (mX12_lacksT μ)) 396 (370 + a0).toNatClampNeg ((mX12_keeps (mX12_lacksT μ)).1 396 (330 : Int32).toNatClampNeg)) a0)).toNatClampNeg a1).1 396 (331 + (13 * a0)).toNatClampNeg) + 1)) 396 (385 : Int32).toNatClampNeg (((rj_pi (rj_pi (rj_pi (mX12_keeps (mX12_lacksT μ)) 396 (370 + a0).toNatClampNeg ((mX12_keeps (mX12_lacksT μ)).1 396 (330 : Int32).toNatClampNeg)) 396 (((331 + (13 * a0)) + 1) + (fX12_lineOf (rj_pi (mX12_keeps (mX12_lacksT μ)) 396 (370 + a0).toNatClampNeg ((mX12_keeps (mX12_lacksT μ)).1 396 (330 : Int32).toNatClampNeg)) a0)).toNatClampNeg a1) 396 (331 + (13 * a0)).toNatClampNeg (((rj_pi (rj_pi (mX12_keeps (mX12_lacksT μ)) 396 (370 + a0).toNatClampNeg ((mX12_keeps (mX12_lacksT μ)).1 396 (330 : Int32).toNatClampNeg)) 396 (((331 + (13 * a0)) + 1) + (fX12_lineOf (rj_pi (mX12_keeps (mX12_lacksT μ)) 396 (370 + a0).toNatClampNeg ((mX12_keeps (mX12_lacksT μ)).1 396 (330 : Int32).toNatClampNeg)) a0)).toNatClampNeg a1).1 396 (331 + (13 * a0)).toNatClampNeg) + 1)).1 396 (385 : Int32).toNatClampNeg) + 1)).1 396 (385 : Int32).toNatClampNeg)) a1 ∧ True)) ∧ ((¬ ((fX12_lineOf (mX12_keeps (mX12_lacksT μ)) a0) = 0)) → (vp_in (((331 + (13 * a0)) + 1) + (fX12_lineOf (mX12_keeps (mX12_lacksT μ)) a0)) 625 ∧ qX12_waitNow (rj_pi (rj_pi (rj_pi (rj_pi (mX12_keeps (mX12_lacksT μ)) 396 (((331 + (13 * a0)) + 1) + (fX12_lineOf (mX12_keeps (mX12_lacksT μ)) a0)).toNatClampNeg a1) 396 (331 + (13 * a0)).toNatClampNeg (((rj_pi (mX12_keeps (mX12_lacksT μ)) 396 (((331 + (13 * a0)) + 1) + (fX12_lineOf (mX12_keeps (mX12_lacksT μ)) a0)).toNatClampNeg a1).1 396 (331 + (13 * a0)).toNatClampNeg) + 1)) 396 (385 : Int32).toNatClampNeg (((rj_pi (rj_pi (mX12_keeps (mX12_lacksT μ)) 396 (((331 + (13 * a0)) + 1) + (fX12_lineOf (mX12_keeps (mX12_lacksT μ)) a0)).toNatClampNeg a1) 396 (331 + (13 * a0)).toNatClampNeg (((rj_pi (mX12_keeps (mX12_lacksT μ)) 396 (((331 + (13 * a0)) + 1) + (fX12_lineOf (mX12_keeps (mX12_lacksT μ)) a0)).toNatClampNeg a1).1 396 (331 + (13 * a0)).toNatClampNeg) + 1)).1 396 (385 : Int32).toNatClampNeg) + 1)) 396 (373 + a1).toNatClampNeg ((rj_pi (rj_pi (rj_pi (mX12_keeps (mX12_lacksT μ)) 396 (((331 + (13 * a0)) + 1) + (fX12_lineOf (mX12_keeps (mX12_lacksT μ)) a0)).toNatClampNeg a1) 396 (331 + (13 * a0)).toNatClampNeg (((rj_pi (mX12_keeps (mX12_lacksT μ)) 396 (((331 + (13 * a0)) + 1) + (fX12_lineOf (mX12_keeps (mX12_lacksT μ)) a0)).toNatClampNeg a1).1 396 (331 + (13 * a0)).toNatClampNeg) + 1)) 396 (385 : Int32).toNatClampNeg (((rj_pi (rj_pi (mX12_keeps (mX12_lacksT μ)) 396 (((331 + (13 * a0)) + 1) + (fX12_lineOf (mX12_keeps (mX12_lacksT μ)) a0)).toNatClampNeg a1) 396 (331 + (13 * a0)).toNatClampNeg (((rj_pi (mX12_keeps (mX12_lacksT μ)) 396 (((331 + (13 * a0)) + 1) + (fX12_lineOf (mX12_keeps (mX12_lacksT μ)) a0)).toNatClampNeg a1).1 396 (331 + (13 * a0)).toNatClampNeg) + 1)).1 396 (385 : Int32).toNatClampNeg) + 1)).1 396 (385 : Int32).toNatClampNeg)) a1 ∧ True))))) ∧ ((¬ ((fX12_barOf (mX12_lacksT μ) a1) = (-1))) → True)))))))
set_option maxHeartbeats 40000000 in
set_option maxRecDepth 100000 in
theorem sX12_join {g : rj_G} {ω : rj_W} (hω : rj_ok ω) (μ : rj_M) (a0 : Int32) (a1 : Int32)   (hq : qX12_join μ a0 a1) : rj_Sp g yX12_join wsX12_join (rj_rm 3 0) [.ref (ω.2.2 395), .int a0, .int a1] ω μ (rj_D (.inl (some (.int (fX12_join μ a0 a1)))) ω (mX12_join μ a0 a1)) := by
  have hqa := hq
  unfold qX12_join at hqa
  refine rj_of' (cc := cX12_join) (nL := 3) (ret := (some .int)) (own := RX12) (l0 := [(0, .ref (ω.2.2 395)), (1, .int a0), (2, .int a1)]) rfl (by decide +kernel) rfl (Nat.le_of_ble_eq_true rfl) rfl ?_
  refine rj_aload_n 0 dX12_join_0 rfl rfl ?_
  refine rj_iload_n 1 dX12_join_1 rfl rfl ?_
  refine rj_cS (rest := [.ref (ω.2.2 395)]) (sX12_isBar (g := g) (ω := ω) hω μ a0   ) gX12_join_X12_isBar rfl hSX12_isBar ⟨Nat.le_of_ble_eq_true rfl, Nat.le_of_ble_eq_true rfl⟩ dX12_join_2 rfl rfl rfl (Nat.le_of_ble_eq_true rfl) rfl (Nat.le_of_ble_eq_true rfl) rfl ?_
  refine rj_if_eq dX12_join_5 rfl rfl (fun h1 => ?_) (fun h1 => ?_)
  · skip
    refine rj_iconst (v := 0) dX12_join_19 rfl (by decide) ?_
    refine rj_cV (rest := []) (sX12_lacksF (g := g) (ω := ω) hω μ   ) gX12_join_X12_lacks (rj_lt hω (k := 395) rfl) (rj_sh hω ly_395) rfl rfl hVX12_lacks ⟨Nat.le_of_ble_eq_true rfl, Nat.le_of_ble_eq_true rfl⟩ dX12_join_20 rfl rfl rfl (Nat.le_of_ble_eq_true rfl) rfl (Nat.le_of_ble_eq_true rfl) rfl ?_
    refine rj_if_ne dX12_join_23 rfl rfl (fun h2 => ?_) (fun h2 => ?_)
    · refine rj_iconst (v := 0) dX12_join_48 rfl (by decide) ?_
      exact rj_iret dX12_join_49 rfl (Nat.le_of_ble_eq_true rfl) (Nat.le_of_ble_eq_true rfl) ⟨(by unfold fX12_join; rw [if_pos h1]; try rfl), rfl, (by unfold mX12_join; rw [if_pos h1]; try rfl)⟩
    · exact absurd h2 (by decide)
  · have hq2 := (And.right hqa) h1
    refine rj_iload_n 2 dX12_join_8 rfl rfl ?_
    refine rj_cS (rest := [.ref (ω.2.2 395)]) (sX12_isVisitor (g := g) (ω := ω) hω μ a1   ) gX12_join_X12_isVisitor rfl hSX12_isVisitor ⟨Nat.le_of_ble_eq_true rfl, Nat.le_of_ble_eq_true rfl⟩ dX12_join_9 rfl rfl rfl (Nat.le_of_ble_eq_true rfl) rfl (Nat.le_of_ble_eq_true rfl) rfl ?_
    refine rj_if_eq dX12_join_12 rfl rfl (fun h3 => ?_) (fun h3 => ?_)
    · skip
      refine rj_iconst (v := 0) dX12_join_19 rfl (by decide) ?_
      refine rj_cV (rest := []) (sX12_lacksF (g := g) (ω := ω) hω μ   ) gX12_join_X12_lacks (rj_lt hω (k := 395) rfl) (rj_sh hω ly_395) rfl rfl hVX12_lacks ⟨Nat.le_of_ble_eq_true rfl, Nat.le_of_ble_eq_true rfl⟩ dX12_join_20 rfl rfl rfl (Nat.le_of_ble_eq_true rfl) rfl (Nat.le_of_ble_eq_true rfl) rfl ?_
      refine rj_if_ne dX12_join_23 rfl rfl (fun h4 => ?_) (fun h4 => ?_)
      · refine rj_iconst (v := 0) dX12_join_48 rfl (by decide) ?_
        exact rj_iret dX12_join_49 rfl (Nat.le_of_ble_eq_true rfl) (Nat.le_of_ble_eq_true rfl) ⟨(by unfold fX12_join; rw [if_neg h1]; rw [if_pos h3]; try rfl), rfl, (by unfold mX12_join; rw [if_neg h1]; rw [if_pos h3]; try rfl)⟩
      · exact absurd h4 (by decide)
    · have hq4 := (And.right hq2) h3
      refine rj_iconst (v := 1) dX12_join_15 rfl (by decide) ?_
      refine rj_goto dX12_join_16 rfl ?_
      refine rj_cV (rest := []) (sX12_lacksT (g := g) (ω := ω) hω μ   ) gX12_join_X12_lacks (rj_lt hω (k := 395) rfl) (rj_sh hω ly_395) rfl rfl hVX12_lacks ⟨Nat.le_of_ble_eq_true rfl, Nat.le_of_ble_eq_true rfl⟩ dX12_join_20 rfl rfl rfl (Nat.le_of_ble_eq_true rfl) rfl (Nat.le_of_ble_eq_true rfl) rfl ?_
      refine rj_if_ne dX12_join_23 rfl rfl (fun h5 => ?_) (fun h5 => ?_)
      · exact absurd (by decide) h5
      · refine rj_aload_n 0 dX12_join_26 rfl rfl ?_
        refine rj_aload_n 0 dX12_join_27 rfl rfl ?_
        refine rj_iload_n 2 dX12_join_28 rfl rfl ?_
        refine rj_cV (rest := [.ref (ω.2.2 395)]) (sX12_barOf (g := g) (ω := ω) hω (mX12_lacksT μ) a1   (And.left hq4)) gX12_join_X12_barOf (rj_lt hω (k := 395) rfl) (rj_sh hω ly_395) rfl rfl hVX12_barOf ⟨Nat.le_of_ble_eq_true rfl, Nat.le_of_ble_eq_true rfl⟩ dX12_join_29 rfl rfl rfl (Nat.le_of_ble_eq_true rfl) rfl (Nat.le_of_ble_eq_true rfl) rfl ?_
        refine rj_iconst (v := (-1)) dX12_join_32 rfl (by decide) ?_
        refine rj_icmp_ne dX12_join_33 rfl rfl (fun h6 => ?_) (fun h6 => ?_)
        · skip
          refine rj_iconst (v := 0) dX12_join_40 rfl (by decide) ?_
          refine rj_iconst (v := 2) dX12_join_41 rfl (by decide) ?_
          refine rj_cV (rest := []) (sX12_noF (g := g) (ω := ω) hω (mX12_lacksT μ) 2   ) gX12_join_X12_no (rj_lt hω (k := 395) rfl) (rj_sh hω ly_395) rfl rfl hVX12_no ⟨Nat.le_of_ble_eq_true rfl, Nat.le_of_ble_eq_true rfl⟩ dX12_join_42 rfl rfl rfl (Nat.le_of_ble_eq_true rfl) rfl (Nat.le_of_ble_eq_true rfl) rfl ?_
          refine rj_if_eq dX12_join_45 rfl rfl (fun h7 => ?_) (fun h7 => ?_)
          · exact absurd h7 (by decide)
          · refine rj_iconst (v := 0) dX12_join_48 rfl (by decide) ?_
            exact rj_iret dX12_join_49 rfl (Nat.le_of_ble_eq_true rfl) (Nat.le_of_ble_eq_true rfl) ⟨(by unfold fX12_join; rw [if_neg h1]; rw [if_neg h3]; rw [if_neg h6]; try rfl), rfl, (by unfold mX12_join; rw [if_neg h1]; rw [if_neg h3]; rw [if_neg h6]; try rfl)⟩
        · have hq6 := (And.left (And.right hq4)) h6
          refine rj_iconst (v := 1) dX12_join_36 rfl (by decide) ?_
          refine rj_goto dX12_join_37 rfl ?_
          refine rj_iconst (v := 2) dX12_join_41 rfl (by decide) ?_
          refine rj_cV (rest := []) (sX12_noT (g := g) (ω := ω) hω (mX12_lacksT μ) 2   ) gX12_join_X12_no (rj_lt hω (k := 395) rfl) (rj_sh hω ly_395) rfl rfl hVX12_no ⟨Nat.le_of_ble_eq_true rfl, Nat.le_of_ble_eq_true rfl⟩ dX12_join_42 rfl rfl rfl (Nat.le_of_ble_eq_true rfl) rfl (Nat.le_of_ble_eq_true rfl) rfl ?_
          refine rj_if_eq dX12_join_45 rfl rfl (fun h8 => ?_) (fun h8 => ?_)
          · refine rj_aload_n 0 dX12_join_50 rfl rfl ?_
            refine rj_cV (rest := []) (sX12_keeps (g := g) (ω := ω) hω (mX12_lacksT μ)   (And.left hq6)) gX12_join_X12_keeps (rj_lt hω (k := 395) rfl) (rj_sh hω ly_395) rfl rfl hVX12_keeps ⟨Nat.le_of_ble_eq_true rfl, Nat.le_of_ble_eq_true rfl⟩ dX12_join_51 rfl rfl rfl (Nat.le_of_ble_eq_true rfl) rfl (Nat.le_of_ble_eq_true rfl) rfl ?_
            refine rj_aload_n 0 dX12_join_54 rfl rfl ?_
            refine rj_iload_n 1 dX12_join_55 rfl rfl ?_
            refine rj_cV (rest := []) (sX12_lineOf (g := g) (ω := ω) hω (mX12_keeps (mX12_lacksT μ)) a0  (rj_isBar h1) ) gX12_join_X12_lineOf (rj_lt hω (k := 395) rfl) (rj_sh hω ly_395) rfl rfl hVX12_lineOf ⟨Nat.le_of_ble_eq_true rfl, Nat.le_of_ble_eq_true rfl⟩ dX12_join_56 rfl rfl rfl (Nat.le_of_ble_eq_true rfl) rfl (Nat.le_of_ble_eq_true rfl) rfl ?_
            refine rj_if_ne dX12_join_59 rfl rfl (fun h9 => ?_) (fun h9 => ?_)
            · have hq7 := (And.right (And.right hq6)) h9
              refine rj_aload_n 0 dX12_join_80 rfl rfl ?_
              refine rj_getR (C0 := RX12) (T := TX12) (N := 16) (j := 1) (r := 396) dX12_join_81 rfl vX12_join_12 rfl (rj_lt hω (k := 395) rfl) (rj_sh hω ly_395) (by decide) kX12_join_9 rfl ?_
              refine rj_sipush (v := 331) dX12_join_84 rfl (by decide) ?_
              refine rj_bipush (v := 13) dX12_join_87 rfl (by decide) ?_
              refine rj_iload_n 1 dX12_join_89 rfl rfl ?_
              refine rj_imul dX12_join_90 rfl ?_
              refine rj_iadd dX12_join_91 rfl ?_
              refine rj_iconst (v := 1) dX12_join_92 rfl (by decide) ?_
              refine rj_iadd dX12_join_93 rfl ?_
              refine rj_aload_n 0 dX12_join_94 rfl rfl ?_
              refine rj_iload_n 1 dX12_join_95 rfl rfl ?_
              refine rj_cV (rest := [.int ((331 + (13 * a0)) + 1), .ref (ω.2.2 396)]) (sX12_lineOf (g := g) (ω := ω) hω (mX12_keeps (mX12_lacksT μ)) a0  (rj_isBar h1) ) gX12_join_X12_lineOf (rj_lt hω (k := 395) rfl) (rj_sh hω ly_395) rfl rfl hVX12_lineOf ⟨Nat.le_of_ble_eq_true rfl, Nat.le_of_ble_eq_true rfl⟩ dX12_join_96 rfl rfl rfl (Nat.le_of_ble_eq_true rfl) rfl (Nat.le_of_ble_eq_true rfl) rfl ?_
              refine rj_iadd dX12_join_99 rfl ?_
              refine rj_iload_n 2 dX12_join_100 rfl rfl ?_
              refine rj_iast dX12_join_101 rfl (rj_lt hω (k := 396) rfl) (rj_sh hω ly_396) (And.left hq7) ?_
              refine rj_aload_n 0 dX12_join_102 rfl rfl ?_
              refine rj_getR (C0 := RX12) (T := TX12) (N := 16) (j := 1) (r := 396) dX12_join_103 rfl vX12_join_12 rfl (rj_lt hω (k := 395) rfl) (rj_sh hω ly_395) (by decide) kX12_join_9 rfl ?_
              refine rj_sipush (v := 331) dX12_join_106 rfl (by decide) ?_
              refine rj_bipush (v := 13) dX12_join_109 rfl (by decide) ?_
              refine rj_iload_n 1 dX12_join_111 rfl rfl ?_
              refine rj_imul dX12_join_112 rfl ?_
              refine rj_iadd dX12_join_113 rfl ?_
              refine rj_dup2 dX12_join_114 rfl rfl rfl ?_
              refine rj_iald dX12_join_115 rfl (rj_lt hω (k := 396) rfl) (rj_sh hω ly_396) (rj_vle (rj_vadd (N := 358) (vp_in_nI (n := 331) (N := 332) (rj_bl rfl) (rj_bl rfl)) (rj_vmul (k := 13) (N := 27) (rj_isBar h1) rfl rfl) rfl rfl) rfl) ?_
              refine rj_iconst (v := 1) dX12_join_116 rfl (by decide) ?_
              refine rj_iadd dX12_join_117 rfl ?_
              refine rj_iast dX12_join_118 rfl (rj_lt hω (k := 396) rfl) (rj_sh hω ly_396) (rj_vle (rj_vadd (N := 358) (vp_in_nI (n := 331) (N := 332) (rj_bl rfl) (rj_bl rfl)) (rj_vmul (k := 13) (N := 27) (rj_isBar h1) rfl rfl) rfl rfl) rfl) ?_
              refine rj_aload_n 0 dX12_join_119 rfl rfl ?_
              refine rj_getR (C0 := RX12) (T := TX12) (N := 16) (j := 1) (r := 396) dX12_join_120 rfl vX12_join_12 rfl (rj_lt hω (k := 395) rfl) (rj_sh hω ly_395) (by decide) kX12_join_9 rfl ?_
              refine rj_sipush (v := 385) dX12_join_123 rfl (by decide) ?_
              refine rj_dup2 dX12_join_126 rfl rfl rfl ?_
              refine rj_iald dX12_join_127 rfl (rj_lt hω (k := 396) rfl) (rj_sh hω ly_396) (vp_in_nI (n := 385) (rj_bl rfl) (rj_bl rfl)) ?_
              refine rj_iconst (v := 1) dX12_join_128 rfl (by decide) ?_
              refine rj_iadd dX12_join_129 rfl ?_
              refine rj_iast dX12_join_130 rfl (rj_lt hω (k := 396) rfl) (rj_sh hω ly_396) (vp_in_nI (n := 385) (rj_bl rfl) (rj_bl rfl)) ?_
              refine rj_aload_n 0 dX12_join_131 rfl rfl ?_
              refine rj_getR (C0 := RX12) (T := TX12) (N := 16) (j := 1) (r := 396) dX12_join_132 rfl vX12_join_12 rfl (rj_lt hω (k := 395) rfl) (rj_sh hω ly_395) (by decide) kX12_join_9 rfl ?_
              refine rj_sipush (v := 373) dX12_join_135 rfl (by decide) ?_
              refine rj_iload_n 2 dX12_join_138 rfl rfl ?_
              refine rj_iadd dX12_join_139 rfl ?_
              refine rj_aload_n 0 dX12_join_140 rfl rfl ?_
              refine rj_getR (C0 := RX12) (T := TX12) (N := 16) (j := 1) (r := 396) dX12_join_141 rfl vX12_join_12 rfl (rj_lt hω (k := 395) rfl) (rj_sh hω ly_395) (by decide) kX12_join_9 rfl ?_
              refine rj_sipush (v := 385) dX12_join_144 rfl (by decide) ?_
              refine rj_iald dX12_join_147 rfl (rj_lt hω (k := 396) rfl) (rj_sh hω ly_396) (vp_in_nI (n := 385) (rj_bl rfl) (rj_bl rfl)) ?_
              refine rj_iast dX12_join_148 rfl (rj_lt hω (k := 396) rfl) (rj_sh hω ly_396) (rj_vle (rj_vadd (N := 385) (vp_in_nI (n := 373) (N := 374) (rj_bl rfl) (rj_bl rfl)) (rj_isVisitor h3) rfl rfl) rfl) ?_
              refine rj_aload_n 0 dX12_join_149 rfl rfl ?_
              refine rj_iload_n 2 dX12_join_150 rfl rfl ?_
              refine rj_cV (rest := []) (sX12_waitNow (g := g) (ω := ω) hω (rj_pi (rj_pi (rj_pi (rj_pi (mX12_keeps (mX12_lacksT μ)) 396 (((331 + (13 * a0)) + 1) + (fX12_lineOf (mX12_keeps (mX12_lacksT μ)) a0)).toNatClampNeg a1) 396 (331 + (13 * a0)).toNatClampNeg (((rj_pi (mX12_keeps (mX12_lacksT μ)) 396 (((331 + (13 * a0)) + 1) + (fX12_lineOf (mX12_keeps (mX12_lacksT μ)) a0)).toNatClampNeg a1).1 396 (331 + (13 * a0)).toNatClampNeg) + 1)) 396 (385 : Int32).toNatClampNeg (((rj_pi (rj_pi (mX12_keeps (mX12_lacksT μ)) 396 (((331 + (13 * a0)) + 1) + (fX12_lineOf (mX12_keeps (mX12_lacksT μ)) a0)).toNatClampNeg a1) 396 (331 + (13 * a0)).toNatClampNeg (((rj_pi (mX12_keeps (mX12_lacksT μ)) 396 (((331 + (13 * a0)) + 1) + (fX12_lineOf (mX12_keeps (mX12_lacksT μ)) a0)).toNatClampNeg a1).1 396 (331 + (13 * a0)).toNatClampNeg) + 1)).1 396 (385 : Int32).toNatClampNeg) + 1)) 396 (373 + a1).toNatClampNeg ((rj_pi (rj_pi (rj_pi (mX12_keeps (mX12_lacksT μ)) 396 (((331 + (13 * a0)) + 1) + (fX12_lineOf (mX12_keeps (mX12_lacksT μ)) a0)).toNatClampNeg a1) 396 (331 + (13 * a0)).toNatClampNeg (((rj_pi (mX12_keeps (mX12_lacksT μ)) 396 (((331 + (13 * a0)) + 1) + (fX12_lineOf (mX12_keeps (mX12_lacksT μ)) a0)).toNatClampNeg a1).1 396 (331 + (13 * a0)).toNatClampNeg) + 1)) 396 (385 : Int32).toNatClampNeg (((rj_pi (rj_pi (mX12_keeps (mX12_lacksT μ)) 396 (((331 + (13 * a0)) + 1) + (fX12_lineOf (mX12_keeps (mX12_lacksT μ)) a0)).toNatClampNeg a1) 396 (331 + (13 * a0)).toNatClampNeg (((rj_pi (mX12_keeps (mX12_lacksT μ)) 396 (((331 + (13 * a0)) + 1) + (fX12_lineOf (mX12_keeps (mX12_lacksT μ)) a0)).toNatClampNeg a1).1 396 (331 + (13 * a0)).toNatClampNeg) + 1)).1 396 (385 : Int32).toNatClampNeg) + 1)).1 396 (385 : Int32).toNatClampNeg)) a1   (And.left (And.right hq7))) gX12_join_X12_waitNow (rj_lt hω (k := 395) rfl) (rj_sh hω ly_395) rfl rfl hVX12_waitNow ⟨Nat.le_of_ble_eq_true rfl, Nat.le_of_ble_eq_true rfl⟩ dX12_join_151 rfl rfl rfl (Nat.le_of_ble_eq_true rfl) rfl (Nat.le_of_ble_eq_true rfl) rfl ?_
              exact rj_iret dX12_join_154 rfl (Nat.le_of_ble_eq_true rfl) (Nat.le_of_ble_eq_true rfl) ⟨(by unfold fX12_join; rw [if_neg h1]; rw [if_neg h3]; rw [if_pos h6]; rw [if_neg h9]; try rfl), rfl, (by unfold mX12_join; rw [if_neg h1]; rw [if_neg h3]; rw [if_pos h6]; rw [if_neg h9]; try rfl)⟩
            · have hq8 := (And.left (And.right hq6)) h9
              refine rj_aload_n 0 dX12_join_62 rfl rfl ?_
              refine rj_getR (C0 := RX12) (T := TX12) (N := 16) (j := 1) (r := 396) dX12_join_63 rfl vX12_join_12 rfl (rj_lt hω (k := 395) rfl) (rj_sh hω ly_395) (by decide) kX12_join_9 rfl ?_
              refine rj_sipush (v := 370) dX12_join_66 rfl (by decide) ?_
              refine rj_iload_n 1 dX12_join_69 rfl rfl ?_
              refine rj_iadd dX12_join_70 rfl ?_
              refine rj_aload_n 0 dX12_join_71 rfl rfl ?_
              refine rj_getR (C0 := RX12) (T := TX12) (N := 16) (j := 1) (r := 396) dX12_join_72 rfl vX12_join_12 rfl (rj_lt hω (k := 395) rfl) (rj_sh hω ly_395) (by decide) kX12_join_9 rfl ?_
              refine rj_sipush (v := 330) dX12_join_75 rfl (by decide) ?_
              refine rj_iald dX12_join_78 rfl (rj_lt hω (k := 396) rfl) (rj_sh hω ly_396) (vp_in_nI (n := 330) (rj_bl rfl) (rj_bl rfl)) ?_
              refine rj_iast dX12_join_79 rfl (rj_lt hω (k := 396) rfl) (rj_sh hω ly_396) (rj_vle (rj_vadd (N := 373) (vp_in_nI (n := 370) (N := 371) (rj_bl rfl) (rj_bl rfl)) (rj_isBar h1) rfl rfl) rfl) ?_
              refine rj_aload_n 0 dX12_join_80 rfl rfl ?_
              refine rj_getR (C0 := RX12) (T := TX12) (N := 16) (j := 1) (r := 396) dX12_join_81 rfl vX12_join_12 rfl (rj_lt hω (k := 395) rfl) (rj_sh hω ly_395) (by decide) kX12_join_9 rfl ?_
              refine rj_sipush (v := 331) dX12_join_84 rfl (by decide) ?_
              refine rj_bipush (v := 13) dX12_join_87 rfl (by decide) ?_
              refine rj_iload_n 1 dX12_join_89 rfl rfl ?_
              refine rj_imul dX12_join_90 rfl ?_
              refine rj_iadd dX12_join_91 rfl ?_
              refine rj_iconst (v := 1) dX12_join_92 rfl (by decide) ?_
              refine rj_iadd dX12_join_93 rfl ?_
              refine rj_aload_n 0 dX12_join_94 rfl rfl ?_
              refine rj_iload_n 1 dX12_join_95 rfl rfl ?_
              refine rj_cV (rest := [.int ((331 + (13 * a0)) + 1), .ref (ω.2.2 396)]) (sX12_lineOf (g := g) (ω := ω) hω (rj_pi (mX12_keeps (mX12_lacksT μ)) 396 (370 + a0).toNatClampNeg ((mX12_keeps (mX12_lacksT μ)).1 396 (330 : Int32).toNatClampNeg)) a0  (rj_isBar h1) ) gX12_join_X12_lineOf (rj_lt hω (k := 395) rfl) (rj_sh hω ly_395) rfl rfl hVX12_lineOf ⟨Nat.le_of_ble_eq_true rfl, Nat.le_of_ble_eq_true rfl⟩ dX12_join_96 rfl rfl rfl (Nat.le_of_ble_eq_true rfl) rfl (Nat.le_of_ble_eq_true rfl) rfl ?_
              refine rj_iadd dX12_join_99 rfl ?_
              refine rj_iload_n 2 dX12_join_100 rfl rfl ?_
              refine rj_iast dX12_join_101 rfl (rj_lt hω (k := 396) rfl) (rj_sh hω ly_396) (And.left hq8) ?_
              refine rj_aload_n 0 dX12_join_102 rfl rfl ?_
              refine rj_getR (C0 := RX12) (T := TX12) (N := 16) (j := 1) (r := 396) dX12_join_103 rfl vX12_join_12 rfl (rj_lt hω (k := 395) rfl) (rj_sh hω ly_395) (by decide) kX12_join_9 rfl ?_
              refine rj_sipush (v := 331) dX12_join_106 rfl (by decide) ?_
              refine rj_bipush (v := 13) dX12_join_109 rfl (by decide) ?_
              refine rj_iload_n 1 dX12_join_111 rfl rfl ?_
              refine rj_imul dX12_join_112 rfl ?_
              refine rj_iadd dX12_join_113 rfl ?_
              refine rj_dup2 dX12_join_114 rfl rfl rfl ?_
              refine rj_iald dX12_join_115 rfl (rj_lt hω (k := 396) rfl) (rj_sh hω ly_396) (rj_vle (rj_vadd (N := 358) (vp_in_nI (n := 331) (N := 332) (rj_bl rfl) (rj_bl rfl)) (rj_vmul (k := 13) (N := 27) (rj_isBar h1) rfl rfl) rfl rfl) rfl) ?_
              refine rj_iconst (v := 1) dX12_join_116 rfl (by decide) ?_
              refine rj_iadd dX12_join_117 rfl ?_
              refine rj_iast dX12_join_118 rfl (rj_lt hω (k := 396) rfl) (rj_sh hω ly_396) (rj_vle (rj_vadd (N := 358) (vp_in_nI (n := 331) (N := 332) (rj_bl rfl) (rj_bl rfl)) (rj_vmul (k := 13) (N := 27) (rj_isBar h1) rfl rfl) rfl rfl) rfl) ?_
              refine rj_aload_n 0 dX12_join_119 rfl rfl ?_
              refine rj_getR (C0 := RX12) (T := TX12) (N := 16) (j := 1) (r := 396) dX12_join_120 rfl vX12_join_12 rfl (rj_lt hω (k := 395) rfl) (rj_sh hω ly_395) (by decide) kX12_join_9 rfl ?_
              refine rj_sipush (v := 385) dX12_join_123 rfl (by decide) ?_
              refine rj_dup2 dX12_join_126 rfl rfl rfl ?_
              refine rj_iald dX12_join_127 rfl (rj_lt hω (k := 396) rfl) (rj_sh hω ly_396) (vp_in_nI (n := 385) (rj_bl rfl) (rj_bl rfl)) ?_
              refine rj_iconst (v := 1) dX12_join_128 rfl (by decide) ?_
              refine rj_iadd dX12_join_129 rfl ?_
              refine rj_iast dX12_join_130 rfl (rj_lt hω (k := 396) rfl) (rj_sh hω ly_396) (vp_in_nI (n := 385) (rj_bl rfl) (rj_bl rfl)) ?_
              refine rj_aload_n 0 dX12_join_131 rfl rfl ?_
              refine rj_getR (C0 := RX12) (T := TX12) (N := 16) (j := 1) (r := 396) dX12_join_132 rfl vX12_join_12 rfl (rj_lt hω (k := 395) rfl) (rj_sh hω ly_395) (by decide) kX12_join_9 rfl ?_
              refine rj_sipush (v := 373) dX12_join_135 rfl (by decide) ?_
              refine rj_iload_n 2 dX12_join_138 rfl rfl ?_
              refine rj_iadd dX12_join_139 rfl ?_
              refine rj_aload_n 0 dX12_join_140 rfl rfl ?_
              refine rj_getR (C0 := RX12) (T := TX12) (N := 16) (j := 1) (r := 396) dX12_join_141 rfl vX12_join_12 rfl (rj_lt hω (k := 395) rfl) (rj_sh hω ly_395) (by decide) kX12_join_9 rfl ?_
              refine rj_sipush (v := 385) dX12_join_144 rfl (by decide) ?_
              refine rj_iald dX12_join_147 rfl (rj_lt hω (k := 396) rfl) (rj_sh hω ly_396) (vp_in_nI (n := 385) (rj_bl rfl) (rj_bl rfl)) ?_
              refine rj_iast dX12_join_148 rfl (rj_lt hω (k := 396) rfl) (rj_sh hω ly_396) (rj_vle (rj_vadd (N := 385) (vp_in_nI (n := 373) (N := 374) (rj_bl rfl) (rj_bl rfl)) (rj_isVisitor h3) rfl rfl) rfl) ?_
              refine rj_aload_n 0 dX12_join_149 rfl rfl ?_
              refine rj_iload_n 2 dX12_join_150 rfl rfl ?_
              refine rj_cV (rest := []) (sX12_waitNow (g := g) (ω := ω) hω (rj_pi (rj_pi (rj_pi (rj_pi (rj_pi (mX12_keeps (mX12_lacksT μ)) 396 (370 + a0).toNatClampNeg ((mX12_keeps (mX12_lacksT μ)).1 396 (330 : Int32).toNatClampNeg)) 396 (((331 + (13 * a0)) + 1) + (fX12_lineOf (rj_pi (mX12_keeps (mX12_lacksT μ)) 396 (370 + a0).toNatClampNeg ((mX12_keeps (mX12_lacksT μ)).1 396 (330 : Int32).toNatClampNeg)) a0)).toNatClampNeg a1) 396 (331 + (13 * a0)).toNatClampNeg (((rj_pi (rj_pi (mX12_keeps (mX12_lacksT μ)) 396 (370 + a0).toNatClampNeg ((mX12_keeps (mX12_lacksT μ)).1 396 (330 : Int32).toNatClampNeg)) 396 (((331 + (13 * a0)) + 1) + (fX12_lineOf (rj_pi (mX12_keeps (mX12_lacksT μ)) 396 (370 + a0).toNatClampNeg ((mX12_keeps (mX12_lacksT μ)).1 396 (330 : Int32).toNatClampNeg)) a0)).toNatClampNeg a1).1 396 (331 + (13 * a0)).toNatClampNeg) + 1)) 396 (385 : Int32).toNatClampNeg (((rj_pi (rj_pi (rj_pi (mX12_keeps (mX12_lacksT μ)) 396 (370 + a0).toNatClampNeg ((mX12_keeps (mX12_lacksT μ)).1 396 (330 : Int32).toNatClampNeg)) 396 (((331 + (13 * a0)) + 1) + (fX12_lineOf (rj_pi (mX12_keeps (mX12_lacksT μ)) 396 (370 + a0).toNatClampNeg ((mX12_keeps (mX12_lacksT μ)).1 396 (330 : Int32).toNatClampNeg)) a0)).toNatClampNeg a1) 396 (331 + (13 * a0)).toNatClampNeg (((rj_pi (rj_pi (mX12_keeps (mX12_lacksT μ)) 396 (370 + a0).toNatClampNeg ((mX12_keeps (mX12_lacksT μ)).1 396 (330 : Int32).toNatClampNeg)) 396 (((331 + (13 * a0)) + 1) + (fX12_lineOf (rj_pi (mX12_keeps (mX12_lacksT μ)) 396 (370 + a0).toNatClampNeg ((mX12_keeps (mX12_lacksT μ)).1 396 (330 : Int32).toNatClampNeg)) a0)).toNatClampNeg a1).1 396 (331 + (13 * a0)).toNatClampNeg) + 1)).1 396 (385 : Int32).toNatClampNeg) + 1)) 396 (373 + a1).toNatClampNeg ((rj_pi (rj_pi (rj_pi (rj_pi (mX12_keeps (mX12_lacksT μ)) 396 (370 + a0).toNatClampNeg ((mX12_keeps (mX12_lacksT μ)).1 396 (330 : Int32).toNatClampNeg)) 396 (((331 + (13 * a0)) + 1) + (fX12_lineOf (rj_pi (mX12_keeps (mX12_lacksT μ)) 396 (370 + a0).toNatClampNeg ((mX12_keeps (mX12_lacksT μ)).1 396 (330 : Int32).toNatClampNeg)) a0)).toNatClampNeg a1) 396 (331 + (13 * a0)).toNatClampNeg (((rj_pi (rj_pi (mX12_keeps (mX12_lacksT μ)) 396 (370 + a0).toNatClampNeg ((mX12_keeps (mX12_lacksT μ)).1 396 (330 : Int32).toNatClampNeg)) 396 (((331 + (13 * a0)) + 1) + (fX12_lineOf (rj_pi (mX12_keeps (mX12_lacksT μ)) 396 (370 + a0).toNatClampNeg ((mX12_keeps (mX12_lacksT μ)).1 396 (330 : Int32).toNatClampNeg)) a0)).toNatClampNeg a1).1 396 (331 + (13 * a0)).toNatClampNeg) + 1)) 396 (385 : Int32).toNatClampNeg (((rj_pi (rj_pi (rj_pi (mX12_keeps (mX12_lacksT μ)) 396 (370 + a0).toNatClampNeg ((mX12_keeps (mX12_lacksT μ)).1 396 (330 : Int32).toNatClampNeg)) 396 (((331 + (13 * a0)) + 1) + (fX12_lineOf (rj_pi (mX12_keeps (mX12_lacksT μ)) 396 (370 + a0).toNatClampNeg ((mX12_keeps (mX12_lacksT μ)).1 396 (330 : Int32).toNatClampNeg)) a0)).toNatClampNeg a1) 396 (331 + (13 * a0)).toNatClampNeg (((rj_pi (rj_pi (mX12_keeps (mX12_lacksT μ)) 396 (370 + a0).toNatClampNeg ((mX12_keeps (mX12_lacksT μ)).1 396 (330 : Int32).toNatClampNeg)) 396 (((331 + (13 * a0)) + 1) + (fX12_lineOf (rj_pi (mX12_keeps (mX12_lacksT μ)) 396 (370 + a0).toNatClampNeg ((mX12_keeps (mX12_lacksT μ)).1 396 (330 : Int32).toNatClampNeg)) a0)).toNatClampNeg a1).1 396 (331 + (13 * a0)).toNatClampNeg) + 1)).1 396 (385 : Int32).toNatClampNeg) + 1)).1 396 (385 : Int32).toNatClampNeg)) a1   (And.left (And.right hq8))) gX12_join_X12_waitNow (rj_lt hω (k := 395) rfl) (rj_sh hω ly_395) rfl rfl hVX12_waitNow ⟨Nat.le_of_ble_eq_true rfl, Nat.le_of_ble_eq_true rfl⟩ dX12_join_151 rfl rfl rfl (Nat.le_of_ble_eq_true rfl) rfl (Nat.le_of_ble_eq_true rfl) rfl ?_
              exact rj_iret dX12_join_154 rfl (Nat.le_of_ble_eq_true rfl) (Nat.le_of_ble_eq_true rfl) ⟨(by unfold fX12_join; rw [if_neg h1]; rw [if_neg h3]; rw [if_pos h6]; rw [if_pos h9]; try rfl), rfl, (by unfold mX12_join; rw [if_neg h1]; rw [if_neg h3]; rw [if_pos h6]; rw [if_pos h9]; try rfl)⟩
          · exact absurd (by decide) h8
