theorem hSX12_listeners : yX12_listeners.cls ≠ "java/lang/invoke/MethodHandle" ∧ yX12_listeners.cls ≠ "java/lang/invoke/VarHandle" ∧ (parseMethodDescriptor yX12_listeners.desc).map (fun d => d.parameters.length) = some 2 := by decide +kernel
theorem hVX12_listeners : yX12_listeners.cls = RX12 ∧ yX12_listeners.cls ≠ "java/lang/invoke/MethodHandle" ∧ yX12_listeners.cls ≠ "java/lang/invoke/VarHandle" ∧ (parseMethodDescriptor yX12_listeners.desc).map (fun d => d.parameters.length) = some 2 := by decide +kernel
noncomputable def bX12_listeners_34 (μ : rj_M) (a0 : Int32) (a1 : Int32) (j34 : Nat) (s34 : Int32 × rj_M) : (Int32 × rj_M) := (if (fX12_isListening s34.2 (nI j34) a0 a1) = 0 then ((s34.1 + 0), (mX12_isListening s34.2 (nI j34) a0 a1)) else ((s34.1 + 1), (mX12_isListening s34.2 (nI j34) a0 a1)))
noncomputable def qX12_listeners_34 (μ : rj_M) (a0 : Int32) (a1 : Int32) (j34 : Nat) (s34 : Int32 × rj_M) : Prop := (qX12_isListening s34.2 (nI j34) a0 a1 ∧ True)
set_option maxHeartbeats 4000000 in
set_option maxRecDepth 100000 in
theorem lX12_listeners_34 {g : rj_G} {ω : rj_W} (hω : rj_ok ω) (μ : rj_M) (a0 : Int32) (a1 : Int32)     (h1 : ((fX12_lacks μ (fX12_isStage μ a0)) = 0)) (h2 : ((fX12_no (mX12_lacks μ (fX12_isStage μ a0)) (fX12_in (mX12_lacks μ (fX12_isStage μ a0)) a1 0 5759) 2) = 0)) {F : rj_F} : ∀ (r j : Nat) (s : Int32 × rj_M), j + r = 12 → (True → ra_fo (qX12_listeners_34 μ a0 a1) (bX12_listeners_34 μ a0 a1) r j s) → (rj_R g RX12 cX12_listeners 5 (some .int) wsX12_listeners [] (rj_rm 6 0) F 0 ω ((rj_fo (bX12_listeners_34 μ a0 a1) r j s).2) [(0, .ref (ω.2.2 395)), (1, .int a0), (2, .int a1), (3, .int ((rj_fo (bX12_listeners_34 μ a0 a1) r j s).1)), (4, .int (nI 12))] 66 []) → rj_R g RX12 cX12_listeners 5 (some .int) wsX12_listeners [] (rj_rm 6 0) F 0 ω s.2 [(0, .ref (ω.2.2 395)), (1, .int a0), (2, .int a1), (3, .int s.1), (4, .int (nI j))] 34 [] := by
  intro r
  induction r with
  | zero =>
    intro j s hj hq0 K
    have e0 : j = 12 := by omega
    have hge : 12 ≤ nI j := by
      rw [e0]
      exact Int32.le_refl _
    refine rj_iload 4 dX12_listeners_34 rfl rfl ?_
    refine rj_bipush (v := 12) dX12_listeners_36 rfl (by decide) ?_
    refine rj_icmp_ge dX12_listeners_38 rfl rfl (fun h5 => ?_) (fun h5 => ?_)
    · have e1 : nI j = nI 12 := by rw [e0]
      rw [e1]
      exact K
    · exact absurd hge h5
  | succ r ih =>
    intro j34 s34 hj hq0 K
    have hl34 : j34 < 12 := by omega
    have hg34 : ¬ 12 ≤ nI j34 := nI_ge hl34 (rj_bl rfl)
    have hqa := ra_fo_q (hq0 True.intro)
    unfold qX12_listeners_34 at hqa
    refine rj_iload 4 dX12_listeners_34 rfl rfl ?_
    refine rj_bipush (v := 12) dX12_listeners_36 rfl (by decide) ?_
    refine rj_icmp_ge dX12_listeners_38 rfl rfl (fun h3 => ?_) (fun h3 => ?_)
    · exact absurd h3 hg34
    · refine rj_iload_n 3 dX12_listeners_41 rfl rfl ?_
      refine rj_aload_n 0 dX12_listeners_42 rfl rfl ?_
      refine rj_iload 4 dX12_listeners_43 rfl rfl ?_
      refine rj_iload_n 1 dX12_listeners_45 rfl rfl ?_
      refine rj_iload_n 2 dX12_listeners_46 rfl rfl ?_
      refine rj_cV (rest := [.int s34.1]) (sX12_isListening (g := g) (ω := ω) hω s34.2 (nI j34) a0 a1  (vp_in_nI hl34 (rj_bl rfl)) (And.left hqa)) gX12_listeners_X12_isListening (rj_lt hω (k := 395) rfl) (rj_sh hω ly_395) rfl rfl hVX12_isListening ⟨Nat.le_of_ble_eq_true rfl, Nat.le_of_ble_eq_true rfl⟩ dX12_listeners_47 rfl rfl rfl (Nat.le_of_ble_eq_true rfl) rfl (Nat.le_of_ble_eq_true rfl) rfl ?_
      refine rj_if_eq dX12_listeners_50 rfl rfl (fun h4 => ?_) (fun h4 => ?_)
      · skip
        refine rj_iconst (v := 0) dX12_listeners_57 rfl (by decide) ?_
        refine rj_iadd dX12_listeners_58 rfl ?_
        refine rj_istore_n (l' := [(3, .int (s34.1 + 0)), (0, .ref (ω.2.2 395)), (1, .int a0), (2, .int a1), (4, .int (nI j34))]) dX12_listeners_59 rfl (rj_bl rfl) rfl ?_
        refine rj_iinc (v := nI (j34 + 1)) (l' := [(4, .int (nI (j34 + 1))), (3, .int (s34.1 + 0)), (0, .ref (ω.2.2 395)), (1, .int a0), (2, .int a1)]) 4 dX12_listeners_60 rfl rfl (nI_succ j34).symm (rj_bl rfl) rfl ?_
        refine rj_goto dX12_listeners_63 rfl ?_
        have e : bX12_listeners_34 μ a0 a1 j34 s34 = ((s34.1 + 0), (mX12_isListening s34.2 (nI j34) a0 a1)) := by unfold bX12_listeners_34; rw [if_pos h4]; try rfl
        revert e
        generalize (mX12_isListening s34.2 (nI j34) a0 a1) = gA0
        intro e
        exact rj_sub (l' := [(0, .ref (ω.2.2 395)), (1, .int a0), (2, .int a1), (3, .int (s34.1 + 0)), (4, .int (nI (j34 + 1)))]) [2, 3, 4, 1, 0] rfl (ih (j34 + 1) ((s34.1 + 0), gA0) (by omega) (fun _ => ra_fo_n (hq0 True.intro) e) (by rw [rj_fo_s, e] at K; exact K))
      · skip
        refine rj_iconst (v := 1) dX12_listeners_53 rfl (by decide) ?_
        refine rj_goto dX12_listeners_54 rfl ?_
        refine rj_iadd dX12_listeners_58 rfl ?_
        refine rj_istore_n (l' := [(3, .int (s34.1 + 1)), (0, .ref (ω.2.2 395)), (1, .int a0), (2, .int a1), (4, .int (nI j34))]) dX12_listeners_59 rfl (rj_bl rfl) rfl ?_
        refine rj_iinc (v := nI (j34 + 1)) (l' := [(4, .int (nI (j34 + 1))), (3, .int (s34.1 + 1)), (0, .ref (ω.2.2 395)), (1, .int a0), (2, .int a1)]) 4 dX12_listeners_60 rfl rfl (nI_succ j34).symm (rj_bl rfl) rfl ?_
        refine rj_goto dX12_listeners_63 rfl ?_
        have e : bX12_listeners_34 μ a0 a1 j34 s34 = ((s34.1 + 1), (mX12_isListening s34.2 (nI j34) a0 a1)) := by unfold bX12_listeners_34; rw [if_neg h4]; try rfl
        revert e
        generalize (mX12_isListening s34.2 (nI j34) a0 a1) = gA0
        intro e
        exact rj_sub (l' := [(0, .ref (ω.2.2 395)), (1, .int a0), (2, .int a1), (3, .int (s34.1 + 1)), (4, .int (nI (j34 + 1)))]) [2, 3, 4, 1, 0] rfl (ih (j34 + 1) ((s34.1 + 1), gA0) (by omega) (fun _ => ra_fo_n (hq0 True.intro) e) (by rw [rj_fo_s, e] at K; exact K))
set_option maxHeartbeats 4000000 in
theorem lX12_listeners_34u {g : rj_G} {ω : rj_W} (hω : rj_ok ω) (μ : rj_M) (a0 : Int32) (a1 : Int32)     (h1 : ((fX12_lacks μ (fX12_isStage μ a0)) = 0)) (h2 : ((fX12_no (mX12_lacks μ (fX12_isStage μ a0)) (fX12_in (mX12_lacks μ (fX12_isStage μ a0)) a1 0 5759) 2) = 0)) {F : rj_F} : ∀ (r j : Nat) (c0 : Int32) (c1 : rj_M), j + r = 12 → (True → ra_fo (qX12_listeners_34 μ a0 a1) (bX12_listeners_34 μ a0 a1) r j (c0, c1)) → (rj_R g RX12 cX12_listeners 5 (some .int) wsX12_listeners [] (rj_rm 6 0) F 0 ω ((rj_fo (bX12_listeners_34 μ a0 a1) r j (c0, c1)).2) [(0, .ref (ω.2.2 395)), (1, .int a0), (2, .int a1), (3, .int ((rj_fo (bX12_listeners_34 μ a0 a1) r j (c0, c1)).1)), (4, .int (nI 12))] 66 []) → rj_R g RX12 cX12_listeners 5 (some .int) wsX12_listeners [] (rj_rm 6 0) F 0 ω c1 [(0, .ref (ω.2.2 395)), (1, .int a0), (2, .int a1), (3, .int c0), (4, .int (nI j))] 34 [] := fun r j c0 c1 => lX12_listeners_34 hω μ a0 a1     h1 h2 r j (c0, c1)
noncomputable def fX12_listeners (μ : rj_M) (a0 : Int32) (a1 : Int32) : Int32 := (if (fX12_lacks μ (fX12_isStage μ a0)) = 0 then (if (fX12_no (mX12_lacks μ (fX12_isStage μ a0)) (fX12_in (mX12_lacks μ (fX12_isStage μ a0)) a1 0 5759) 2) = 0 then (rj_fo (bX12_listeners_34 μ a0 a1) 12 0 (0, (mX12_no (mX12_lacks μ (fX12_isStage μ a0)) (fX12_in (mX12_lacks μ (fX12_isStage μ a0)) a1 0 5759) 2))).1 else 0) else 0)
noncomputable def mX12_listeners (μ : rj_M) (a0 : Int32) (a1 : Int32) : rj_M := (if (fX12_lacks μ (fX12_isStage μ a0)) = 0 then (if (fX12_no (mX12_lacks μ (fX12_isStage μ a0)) (fX12_in (mX12_lacks μ (fX12_isStage μ a0)) a1 0 5759) 2) = 0 then (rj_fo (bX12_listeners_34 μ a0 a1) 12 0 (0, (mX12_no (mX12_lacks μ (fX12_isStage μ a0)) (fX12_in (mX12_lacks μ (fX12_isStage μ a0)) a1 0 5759) 2))).2 else (mX12_no (mX12_lacks μ (fX12_isStage μ a0)) (fX12_in (mX12_lacks μ (fX12_isStage μ a0)) a1 0 5759) 2)) else (mX12_lacks μ (fX12_isStage μ a0)))
noncomputable def qX12_listeners (μ : rj_M) (a0 : Int32) (a1 : Int32) : Prop := ((((fX12_lacks μ (fX12_isStage μ a0)) = 0) → ((((fX12_no (mX12_lacks μ (fX12_isStage μ a0)) (fX12_in (mX12_lacks μ (fX12_isStage μ a0)) a1 0 5759) 2) = 0) → ((True → ra_fo (qX12_listeners_34 μ a0 a1) (bX12_listeners_34 μ a0 a1) 12 0 (0, (mX12_no (mX12_lacks μ (fX12_isStage μ a0)) (fX12_in (mX12_lacks μ (fX12_isStage μ a0)) a1 0 5759) 2))) ∧ True)) ∧ ((¬ ((fX12_no (mX12_lacks μ (fX12_isStage μ a0)) (fX12_in (mX12_lacks μ (fX12_isStage μ a0)) a1 0 5759) 2) = 0)) → True))) ∧ ((¬ ((fX12_lacks μ (fX12_isStage μ a0)) = 0)) → True))
set_option maxHeartbeats 40000000 in
set_option maxRecDepth 100000 in
theorem sX12_listeners {g : rj_G} {ω : rj_W} (hω : rj_ok ω) (μ : rj_M) (a0 : Int32) (a1 : Int32)   (hq : qX12_listeners μ a0 a1) : rj_Sp g yX12_listeners wsX12_listeners (rj_rm 6 0) [.ref (ω.2.2 395), .int a0, .int a1] ω μ (rj_D (.inl (some (.int (fX12_listeners μ a0 a1)))) ω (mX12_listeners μ a0 a1)) := by
  have hqa := hq
  unfold qX12_listeners at hqa
  refine rj_of' (cc := cX12_listeners) (nL := 5) (ret := (some .int)) (own := RX12) (l0 := [(0, .ref (ω.2.2 395)), (1, .int a0), (2, .int a1)]) rfl (by decide +kernel) rfl (Nat.le_of_ble_eq_true rfl) rfl ?_
  refine rj_aload_n 0 dX12_listeners_0 rfl rfl ?_
  refine rj_iload_n 1 dX12_listeners_1 rfl rfl ?_
  refine rj_cS (rest := [.ref (ω.2.2 395)]) (sX12_isStage (g := g) (ω := ω) hω μ a0   ) gX12_listeners_X12_isStage rfl hSX12_isStage ⟨Nat.le_of_ble_eq_true rfl, Nat.le_of_ble_eq_true rfl⟩ dX12_listeners_2 rfl rfl rfl (Nat.le_of_ble_eq_true rfl) rfl (Nat.le_of_ble_eq_true rfl) rfl ?_
  refine rj_cV (rest := []) (sX12_lacks (g := g) (ω := ω) hω μ (fX12_isStage μ a0)   ) gX12_listeners_X12_lacks (rj_lt hω (k := 395) rfl) (rj_sh hω ly_395) rfl rfl hVX12_lacks ⟨Nat.le_of_ble_eq_true rfl, Nat.le_of_ble_eq_true rfl⟩ dX12_listeners_5 rfl rfl rfl (Nat.le_of_ble_eq_true rfl) rfl (Nat.le_of_ble_eq_true rfl) rfl ?_
  refine rj_if_ne dX12_listeners_8 rfl rfl (fun h1 => ?_) (fun h1 => ?_)
  · skip
    refine rj_iconst (v := 0) dX12_listeners_27 rfl (by decide) ?_
    exact rj_iret dX12_listeners_28 rfl (Nat.le_of_ble_eq_true rfl) (Nat.le_of_ble_eq_true rfl) ⟨(by unfold fX12_listeners; rw [if_neg h1]; try rfl), rfl, (by unfold mX12_listeners; rw [if_neg h1]; try rfl)⟩
  · have hq2 := (And.left hqa) h1
    refine rj_aload_n 0 dX12_listeners_11 rfl rfl ?_
    refine rj_iload_n 2 dX12_listeners_12 rfl rfl ?_
    refine rj_iconst (v := 0) dX12_listeners_13 rfl (by decide) ?_
    refine rj_sipush (v := 5759) dX12_listeners_14 rfl (by decide) ?_
    refine rj_cS (rest := [.ref (ω.2.2 395)]) (sX12_in (g := g) (ω := ω) hω (mX12_lacks μ (fX12_isStage μ a0)) a1 0 5759   ) gX12_listeners_X12_in rfl hSX12_in ⟨Nat.le_of_ble_eq_true rfl, Nat.le_of_ble_eq_true rfl⟩ dX12_listeners_17 rfl rfl rfl (Nat.le_of_ble_eq_true rfl) rfl (Nat.le_of_ble_eq_true rfl) rfl ?_
    refine rj_iconst (v := 2) dX12_listeners_20 rfl (by decide) ?_
    refine rj_cV (rest := []) (sX12_no (g := g) (ω := ω) hω (mX12_lacks μ (fX12_isStage μ a0)) (fX12_in (mX12_lacks μ (fX12_isStage μ a0)) a1 0 5759) 2   ) gX12_listeners_X12_no (rj_lt hω (k := 395) rfl) (rj_sh hω ly_395) rfl rfl hVX12_no ⟨Nat.le_of_ble_eq_true rfl, Nat.le_of_ble_eq_true rfl⟩ dX12_listeners_21 rfl rfl rfl (Nat.le_of_ble_eq_true rfl) rfl (Nat.le_of_ble_eq_true rfl) rfl ?_
    refine rj_if_eq dX12_listeners_24 rfl rfl (fun h2 => ?_) (fun h2 => ?_)
    · have hq3 := (And.left hq2) h2
      refine rj_iconst (v := 0) dX12_listeners_29 rfl (by decide) ?_
      refine rj_istore_n (l' := [(3, .int 0), (0, .ref (ω.2.2 395)), (1, .int a0), (2, .int a1)]) dX12_listeners_30 rfl (rj_bl rfl) rfl ?_
      refine rj_iconst (v := 0) dX12_listeners_31 rfl (by decide) ?_
      refine rj_istore (l' := [(4, .int 0), (3, .int 0), (0, .ref (ω.2.2 395)), (1, .int a0), (2, .int a1)]) dX12_listeners_32 rfl (rj_bl rfl) rfl ?_
      refine rj_sub (l' := [(0, .ref (ω.2.2 395)), (1, .int a0), (2, .int a1), (3, .int 0), (4, .int (nI 0))]) [2, 3, 4, 1, 0] rfl ?_
      refine lX12_listeners_34u hω μ a0 a1     h1 h2 12 0 0 (mX12_no (mX12_lacks μ (fX12_isStage μ a0)) (fX12_in (mX12_lacks μ (fX12_isStage μ a0)) a1 0 5759) 2) rfl (And.left hq3) ?_
      refine rj_iload_n 3 dX12_listeners_66 rfl rfl ?_
      exact rj_iret dX12_listeners_67 rfl (Nat.le_of_ble_eq_true rfl) (Nat.le_of_ble_eq_true rfl) ⟨(by unfold fX12_listeners; rw [if_pos h1]; rw [if_pos h2]; try rfl), rfl, (by unfold mX12_listeners; rw [if_pos h1]; rw [if_pos h2]; try rfl)⟩
    · skip
      refine rj_iconst (v := 0) dX12_listeners_27 rfl (by decide) ?_
      exact rj_iret dX12_listeners_28 rfl (Nat.le_of_ble_eq_true rfl) (Nat.le_of_ble_eq_true rfl) ⟨(by unfold fX12_listeners; rw [if_pos h1]; rw [if_neg h2]; try rfl), rfl, (by unfold mX12_listeners; rw [if_pos h1]; rw [if_neg h2]; try rfl)⟩
