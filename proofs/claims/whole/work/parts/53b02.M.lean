theorem hSX12_cheapest : yX12_cheapest.cls ≠ "java/lang/invoke/MethodHandle" ∧ yX12_cheapest.cls ≠ "java/lang/invoke/VarHandle" ∧ (parseMethodDescriptor yX12_cheapest.desc).map (fun d => d.parameters.length) = some 2 := by decide +kernel
theorem hVX12_cheapest : yX12_cheapest.cls = RX12 ∧ yX12_cheapest.cls ≠ "java/lang/invoke/MethodHandle" ∧ yX12_cheapest.cls ≠ "java/lang/invoke/VarHandle" ∧ (parseMethodDescriptor yX12_cheapest.desc).map (fun d => d.parameters.length) = some 2 := by decide +kernel
noncomputable def bX12_cheapest_5 (μ : rj_M) (a0 : Int32) (a1 : Int32) (j5 : Nat) (s5 : Int32) : Int32 := (if (fX12_costWith μ a0 a1 (nI j5)) = (-1) then s5 else (if s5 = (-1) then (nI j5) else (if (fX12_costWith μ a0 a1 s5) ≤ (fX12_costWith μ a0 a1 (nI j5)) then s5 else (nI j5))))
noncomputable def qX12_cheapest_5 (μ : rj_M) (a0 : Int32) (a1 : Int32) (j5 : Nat) (s5 : Int32) : Prop := (qX12_costWith μ a0 a1 (nI j5) ∧ ((((fX12_costWith μ a0 a1 (nI j5)) = (-1)) → True) ∧ ((¬ ((fX12_costWith μ a0 a1 (nI j5)) = (-1))) → (((s5 = (-1)) → True) ∧ ((¬ (s5 = (-1))) → (vp_in s5 16 ∧ qX12_costWith μ a0 a1 s5 ∧ True))))))
set_option maxHeartbeats 4000000 in
set_option maxRecDepth 100000 in
theorem lX12_cheapest_5 {g : rj_G} {ω : rj_W} (hω : rj_ok ω) (μ : rj_M) (a0 : Int32) (a1 : Int32)     (hp_a0 : (vp_in a0 24)) {F : rj_F} : ∀ (r j : Nat) (s : Int32), j + r = 16 → (True → ra_fo (qX12_cheapest_5 μ a0 a1) (bX12_cheapest_5 μ a0 a1) r j s) → (rj_R g RX12 cX12_cheapest 6 (some .int) wsX12_cheapest [] (rj_rm 2 0) F 0 ω μ [(0, .ref (ω.2.2 395)), (1, .int a0), (2, .int a1), (3, .int (rj_fo (bX12_cheapest_5 μ a0 a1) r j s)), (4, .int (nI 16))] 54 []) → rj_R g RX12 cX12_cheapest 6 (some .int) wsX12_cheapest [] (rj_rm 2 0) F 0 ω μ [(0, .ref (ω.2.2 395)), (1, .int a0), (2, .int a1), (3, .int s), (4, .int (nI j))] 5 [] := by
  intro r
  induction r with
  | zero =>
    intro j s hj hq0 K
    have e0 : j = 16 := by omega
    have hge : 16 ≤ nI j := by
      rw [e0]
      exact Int32.le_refl _
    refine rj_iload 4 dX12_cheapest_5 rfl rfl ?_
    refine rj_bipush (v := 16) dX12_cheapest_7 rfl (by decide) ?_
    refine rj_icmp_ge dX12_cheapest_9 rfl rfl (fun h5 => ?_) (fun h5 => ?_)
    · have e1 : nI j = nI 16 := by rw [e0]
      rw [e1]
      exact K
    · exact absurd hge h5
  | succ r ih =>
    intro j5 s5 hj hq0 K
    have hl5 : j5 < 16 := by omega
    have hg5 : ¬ 16 ≤ nI j5 := nI_ge hl5 (rj_bl rfl)
    have hqa := ra_fo_q (hq0 True.intro)
    unfold qX12_cheapest_5 at hqa
    refine rj_iload 4 dX12_cheapest_5 rfl rfl ?_
    refine rj_bipush (v := 16) dX12_cheapest_7 rfl (by decide) ?_
    refine rj_icmp_ge dX12_cheapest_9 rfl rfl (fun h1 => ?_) (fun h1 => ?_)
    · exact absurd h1 hg5
    · refine rj_aload_n 0 dX12_cheapest_12 rfl rfl ?_
      refine rj_iload_n 1 dX12_cheapest_13 rfl rfl ?_
      refine rj_iload_n 2 dX12_cheapest_14 rfl rfl ?_
      refine rj_iload 4 dX12_cheapest_15 rfl rfl ?_
      refine rj_cV (rest := []) (sX12_costWith (g := g) (ω := ω) hω μ a0 a1 (nI j5)  hp_a0 (vp_in_nI hl5 (rj_bl rfl)) (And.left hqa)) gX12_cheapest_X12_costWith (rj_lt hω (k := 395) rfl) (rj_sh hω ly_395) rfl rfl hVX12_costWith ⟨Nat.le_of_ble_eq_true rfl, Nat.le_of_ble_eq_true rfl⟩ dX12_cheapest_17 rfl rfl rfl (Nat.le_of_ble_eq_true rfl) rfl (Nat.le_of_ble_eq_true rfl) rfl ?_
      refine rj_istore (l' := [(5, .int (fX12_costWith μ a0 a1 (nI j5))), (0, .ref (ω.2.2 395)), (1, .int a0), (2, .int a1), (3, .int s5), (4, .int (nI j5))]) dX12_cheapest_20 rfl (rj_bl rfl) rfl ?_
      refine rj_iload 0 dX12_cheapest_22 rfl rfl ?_
      refine rj_iconst (v := (-1)) dX12_cheapest_24 rfl (by decide) ?_
      refine rj_icmp_eq dX12_cheapest_25 rfl rfl (fun h2 => ?_) (fun h2 => ?_)
      · skip
        refine rj_iinc (v := nI (j5 + 1)) (l' := [(4, .int (nI (j5 + 1))), (5, .int (fX12_costWith μ a0 a1 (nI j5))), (0, .ref (ω.2.2 395)), (1, .int a0), (2, .int a1), (3, .int s5)]) 5 dX12_cheapest_48 rfl rfl (nI_succ j5).symm (rj_bl rfl) rfl ?_
        refine rj_goto dX12_cheapest_51 rfl ?_
        have e : bX12_cheapest_5 μ a0 a1 j5 s5 = s5 := by unfold bX12_cheapest_5; rw [if_pos h2]; try rfl
        exact rj_sub (l' := [(0, .ref (ω.2.2 395)), (1, .int a0), (2, .int a1), (3, .int s5), (4, .int (nI (j5 + 1)))]) [2, 3, 4, 5, 0] rfl (ih (j5 + 1) s5 (by omega) (fun _ => ra_fo_n (hq0 True.intro) e) (by rw [rj_fo_s (r := r), e] at K; exact K))
      · have hq2 := (And.right (And.right hqa)) h2
        refine rj_iload_n 4 dX12_cheapest_28 rfl rfl ?_
        refine rj_iconst (v := (-1)) dX12_cheapest_29 rfl (by decide) ?_
        refine rj_icmp_eq dX12_cheapest_30 rfl rfl (fun h3 => ?_) (fun h3 => ?_)
        · skip
          refine rj_iload 5 dX12_cheapest_45 rfl rfl ?_
          refine rj_istore_n (l' := [(3, .int (nI j5)), (5, .int (fX12_costWith μ a0 a1 (nI j5))), (0, .ref (ω.2.2 395)), (1, .int a0), (2, .int a1), (4, .int (nI j5))]) dX12_cheapest_47 rfl (rj_bl rfl) rfl ?_
          refine rj_iinc (v := nI (j5 + 1)) (l' := [(4, .int (nI (j5 + 1))), (3, .int (nI j5)), (5, .int (fX12_costWith μ a0 a1 (nI j5))), (0, .ref (ω.2.2 395)), (1, .int a0), (2, .int a1)]) 5 dX12_cheapest_48 rfl rfl (nI_succ j5).symm (rj_bl rfl) rfl ?_
          refine rj_goto dX12_cheapest_51 rfl ?_
          have e : bX12_cheapest_5 μ a0 a1 j5 s5 = (nI j5) := by unfold bX12_cheapest_5; rw [if_neg h2]; rw [if_pos h3]; try rfl
          exact rj_sub (l' := [(0, .ref (ω.2.2 395)), (1, .int a0), (2, .int a1), (3, .int (nI j5)), (4, .int (nI (j5 + 1)))]) [3, 4, 5, 1, 0] rfl (ih (j5 + 1) (nI j5) (by omega) (fun _ => ra_fo_n (hq0 True.intro) e) (by rw [rj_fo_s (r := r), e] at K; exact K))
        · have hq4 := (And.right hq2) h3
          refine rj_iload 0 dX12_cheapest_33 rfl rfl ?_
          refine rj_aload_n 1 dX12_cheapest_35 rfl rfl ?_
          refine rj_iload_n 2 dX12_cheapest_36 rfl rfl ?_
          refine rj_iload_n 3 dX12_cheapest_37 rfl rfl ?_
          refine rj_iload_n 4 dX12_cheapest_38 rfl rfl ?_
          refine rj_cV (rest := [.int (fX12_costWith μ a0 a1 (nI j5))]) (sX12_costWith (g := g) (ω := ω) hω μ a0 a1 s5  hp_a0 (And.left hq4) (And.left (And.right hq4))) gX12_cheapest_X12_costWith (rj_lt hω (k := 395) rfl) (rj_sh hω ly_395) rfl rfl hVX12_costWith ⟨Nat.le_of_ble_eq_true rfl, Nat.le_of_ble_eq_true rfl⟩ dX12_cheapest_39 rfl rfl rfl (Nat.le_of_ble_eq_true rfl) rfl (Nat.le_of_ble_eq_true rfl) rfl ?_
          refine rj_icmp_ge dX12_cheapest_42 rfl rfl (fun h4 => ?_) (fun h4 => ?_)
          · skip
            refine rj_iinc (v := nI (j5 + 1)) (l' := [(4, .int (nI (j5 + 1))), (5, .int (fX12_costWith μ a0 a1 (nI j5))), (0, .ref (ω.2.2 395)), (1, .int a0), (2, .int a1), (3, .int s5)]) 5 dX12_cheapest_48 rfl rfl (nI_succ j5).symm (rj_bl rfl) rfl ?_
            refine rj_goto dX12_cheapest_51 rfl ?_
            have e : bX12_cheapest_5 μ a0 a1 j5 s5 = s5 := by unfold bX12_cheapest_5; rw [if_neg h2]; rw [if_neg h3]; rw [if_pos h4]; try rfl
            exact rj_sub (l' := [(0, .ref (ω.2.2 395)), (1, .int a0), (2, .int a1), (3, .int s5), (4, .int (nI (j5 + 1)))]) [2, 3, 4, 5, 0] rfl (ih (j5 + 1) s5 (by omega) (fun _ => ra_fo_n (hq0 True.intro) e) (by rw [rj_fo_s (r := r), e] at K; exact K))
          · skip
            refine rj_iload 5 dX12_cheapest_45 rfl rfl ?_
            refine rj_istore_n (l' := [(3, .int (nI j5)), (5, .int (fX12_costWith μ a0 a1 (nI j5))), (0, .ref (ω.2.2 395)), (1, .int a0), (2, .int a1), (4, .int (nI j5))]) dX12_cheapest_47 rfl (rj_bl rfl) rfl ?_
            refine rj_iinc (v := nI (j5 + 1)) (l' := [(4, .int (nI (j5 + 1))), (3, .int (nI j5)), (5, .int (fX12_costWith μ a0 a1 (nI j5))), (0, .ref (ω.2.2 395)), (1, .int a0), (2, .int a1)]) 5 dX12_cheapest_48 rfl rfl (nI_succ j5).symm (rj_bl rfl) rfl ?_
            refine rj_goto dX12_cheapest_51 rfl ?_
            have e : bX12_cheapest_5 μ a0 a1 j5 s5 = (nI j5) := by unfold bX12_cheapest_5; rw [if_neg h2]; rw [if_neg h3]; rw [if_neg h4]; try rfl
            exact rj_sub (l' := [(0, .ref (ω.2.2 395)), (1, .int a0), (2, .int a1), (3, .int (nI j5)), (4, .int (nI (j5 + 1)))]) [3, 4, 5, 1, 0] rfl (ih (j5 + 1) (nI j5) (by omega) (fun _ => ra_fo_n (hq0 True.intro) e) (by rw [rj_fo_s (r := r), e] at K; exact K))
noncomputable def fX12_cheapest (μ : rj_M) (a0 : Int32) (a1 : Int32) : Int32 := (rj_fo (bX12_cheapest_5 μ a0 a1) 16 0 (-1))
noncomputable def qX12_cheapest (μ : rj_M) (a0 : Int32) (a1 : Int32) : Prop := ((True → ra_fo (qX12_cheapest_5 μ a0 a1) (bX12_cheapest_5 μ a0 a1) 16 0 (-1)) ∧ True)
set_option maxHeartbeats 40000000 in
set_option maxRecDepth 100000 in
theorem sX12_cheapest {g : rj_G} {ω : rj_W} (hω : rj_ok ω) (μ : rj_M) (a0 : Int32) (a1 : Int32)  (hp_a0 : vp_in a0 24)  (hq : qX12_cheapest μ a0 a1) : rj_Sp g yX12_cheapest wsX12_cheapest (rj_rm 2 0) [.ref (ω.2.2 395), .int a0, .int a1] ω μ (rj_D (.inl (some (.int (fX12_cheapest μ a0 a1)))) ω μ) := by
  have hqa := hq
  unfold qX12_cheapest at hqa
  refine rj_of' (cc := cX12_cheapest) (nL := 6) (ret := (some .int)) (own := RX12) (l0 := [(0, .ref (ω.2.2 395)), (1, .int a0), (2, .int a1)]) rfl (by decide +kernel) rfl (Nat.le_of_ble_eq_true rfl) rfl ?_
  refine rj_iconst (v := (-1)) dX12_cheapest_0 rfl (by decide) ?_
  refine rj_istore_n (l' := [(3, .int (-1)), (0, .ref (ω.2.2 395)), (1, .int a0), (2, .int a1)]) dX12_cheapest_1 rfl (rj_bl rfl) rfl ?_
  refine rj_iconst (v := 0) dX12_cheapest_2 rfl (by decide) ?_
  refine rj_istore (l' := [(4, .int 0), (3, .int (-1)), (0, .ref (ω.2.2 395)), (1, .int a0), (2, .int a1)]) dX12_cheapest_3 rfl (rj_bl rfl) rfl ?_
  refine rj_sub (l' := [(0, .ref (ω.2.2 395)), (1, .int a0), (2, .int a1), (3, .int (-1)), (4, .int (nI 0))]) [2, 3, 4, 1, 0] rfl ?_
  refine lX12_cheapest_5 hω μ a0 a1     hp_a0 16 0 (-1) rfl (And.left hqa) ?_
  refine rj_iload_n 3 dX12_cheapest_54 rfl rfl ?_
  exact rj_iret dX12_cheapest_55 rfl (Nat.le_of_ble_eq_true rfl) (Nat.le_of_ble_eq_true rfl) ⟨(by unfold fX12_cheapest; rfl), rfl, rfl⟩
theorem hSX12_costNow : yX12_costNow.cls ≠ "java/lang/invoke/MethodHandle" ∧ yX12_costNow.cls ≠ "java/lang/invoke/VarHandle" ∧ (parseMethodDescriptor yX12_costNow.desc).map (fun d => d.parameters.length) = some 0 := by decide +kernel
theorem hVX12_costNow : yX12_costNow.cls = RX12 ∧ yX12_costNow.cls ≠ "java/lang/invoke/MethodHandle" ∧ yX12_costNow.cls ≠ "java/lang/invoke/VarHandle" ∧ (parseMethodDescriptor yX12_costNow.desc).map (fun d => d.parameters.length) = some 0 := by decide +kernel
theorem vX12_costNow_12 : ∀ w ∈ u_ws RX12 TX12 16, w ∈ wsX12_costNow := by decide +kernel
theorem kX12_costNow_27 : Cond.fieldLink RX12 27 (TX12 10).1 (TX12 10).2.1 (TX12 10).2.2.1 ∈ wsX12_costNow := by decide +kernel
noncomputable def bX12_costNow_2 (μ : rj_M) (j2 : Nat) (s2 : rj_M) : rj_M := (rj_pi s2 (s2.2.2.2 409 (24 : Int32).toNatClampNeg - 1) (nI j2).toNatClampNeg 0)
noncomputable def qX12_costNow_2 (μ : rj_M) (j2 : Nat) (s2 : rj_M) : Prop := (rj_row s2 409 25 410 435 24 ∧ True)
set_option maxHeartbeats 4000000 in
set_option maxRecDepth 100000 in
theorem lX12_costNow_2 {g : rj_G} {ω : rj_W} (hω : rj_ok ω) (μ : rj_M)      {F : rj_F} : ∀ (r j : Nat) (s : rj_M), j + r = 16 → (True → ra_fo (qX12_costNow_2 μ) (bX12_costNow_2 μ) r j s) → (rj_R g RX12 cX12_costNow 4 (some .int) wsX12_costNow [] (rj_rm 3 0) F 0 ω (rj_fo (bX12_costNow_2 μ) r j s) [(0, .ref (ω.2.2 395)), (1, .int (nI 16))] 24 []) → rj_R g RX12 cX12_costNow 4 (some .int) wsX12_costNow [] (rj_rm 3 0) F 0 ω s [(0, .ref (ω.2.2 395)), (1, .int (nI j))] 2 [] := by
  intro r
  induction r with
  | zero =>
    intro j s hj hq0 K
    have e0 : j = 16 := by omega
    have hge : 16 ≤ nI j := by
      rw [e0]
      exact Int32.le_refl _
    refine rj_iload_n 1 dX12_costNow_2 rfl rfl ?_
    refine rj_bipush (v := 16) dX12_costNow_3 rfl (by decide) ?_
    refine rj_icmp_ge dX12_costNow_5 rfl rfl (fun h2 => ?_) (fun h2 => ?_)
    · have e1 : nI j = nI 16 := by rw [e0]
      rw [e1]
      exact K
    · exact absurd hge h2
  | succ r ih =>
    intro j2 s2 hj hq0 K
    have hl2 : j2 < 16 := by omega
    have hg2 : ¬ 16 ≤ nI j2 := nI_ge hl2 (rj_bl rfl)
    have hqa := ra_fo_q (hq0 True.intro)
    unfold qX12_costNow_2 at hqa
    refine rj_iload_n 1 dX12_costNow_2 rfl rfl ?_
    refine rj_bipush (v := 16) dX12_costNow_3 rfl (by decide) ?_
    refine rj_icmp_ge dX12_costNow_5 rfl rfl (fun h1 => ?_) (fun h1 => ?_)
    · exact absurd h1 hg2
    · refine rj_aload_n 0 dX12_costNow_8 rfl rfl ?_
      refine rj_getR (C0 := RX12) (T := TX12) (N := 16) (j := 10) (r := 409) dX12_costNow_9 rfl vX12_costNow_12 rfl (rj_lt hω (k := 395) rfl) (rj_sh hω ly_395) (by decide) kX12_costNow_27 rfl ?_
      refine rj_bipush (v := 24) dX12_costNow_12 rfl (by decide) ?_
      have hrow1 := (And.left hqa)
      refine rj_qaldR dX12_costNow_14 rfl (rj_lt hω (k := 409) rfl) (rj_sh hω ly_409) hrow1 ?_
      refine rj_iload_n 1 dX12_costNow_15 rfl rfl ?_
      refine rj_iconst (v := 0) dX12_costNow_16 rfl (by decide) ?_
      refine rj_iast dX12_costNow_17 rfl (rj_rowlt hω hrow1 rfl) (rj_rowsh409 hω hrow1) (vp_in_nI hl2 (rj_bl rfl)) ?_
      refine rj_iinc (v := nI (j2 + 1)) (l' := [(1, .int (nI (j2 + 1))), (0, .ref (ω.2.2 395))]) 1 dX12_costNow_18 rfl rfl (nI_succ j2).symm (rj_bl rfl) rfl ?_
      refine rj_goto dX12_costNow_21 rfl ?_
      have e : bX12_costNow_2 μ j2 s2 = (rj_pi s2 (s2.2.2.2 409 (24 : Int32).toNatClampNeg - 1) (nI j2).toNatClampNeg 0) := by unfold bX12_costNow_2; rfl
      exact rj_sub (l' := [(0, .ref (ω.2.2 395)), (1, .int (nI (j2 + 1)))]) [1, 0] rfl (ih (j2 + 1) (rj_pi s2 (s2.2.2.2 409 (24 : Int32).toNatClampNeg - 1) (nI j2).toNatClampNeg 0) (by omega) (fun _ => ra_fo_n (hq0 True.intro) e) (by rw [rj_fo_s (r := r), e] at K; exact K))
noncomputable def bX12_costNow_33 (μ : rj_M) (j27 : Nat) (s27 : rj_M) (j33 : Nat) (s33 : rj_M) : rj_M := (if (fX12_cheapest s33 (nI j27) (nI j33)) = (-1) then (rj_pi s33 (s33.2.2.2 409 (nI j27).toNatClampNeg - 1) (nI j33).toNatClampNeg (-1)) else (rj_pi s33 (s33.2.2.2 409 (nI j27).toNatClampNeg - 1) (nI j33).toNatClampNeg (fX12_costWith s33 (nI j27) (nI j33) (fX12_cheapest s33 (nI j27) (nI j33)))))
noncomputable def qX12_costNow_33 (μ : rj_M) (j27 : Nat) (s27 : rj_M) (j33 : Nat) (s33 : rj_M) : Prop := (qX12_cheapest s33 (nI j27) (nI j33) ∧ rj_row s33 409 25 410 435 (nI j27) ∧ ((((fX12_cheapest s33 (nI j27) (nI j33)) = (-1)) → True) ∧ ((¬ ((fX12_cheapest s33 (nI j27) (nI j33)) = (-1))) → (vp_in (fX12_cheapest s33 (nI j27) (nI j33)) 16 ∧ qX12_costWith s33 (nI j27) (nI j33) (fX12_cheapest s33 (nI j27) (nI j33)) ∧ True))))
set_option maxHeartbeats 4000000 in
set_option maxRecDepth 100000 in
theorem lX12_costNow_33 {g : rj_G} {ω : rj_W} (hω : rj_ok ω) (μ : rj_M) (j27 : Nat) (s27 : rj_M)   (hl27 : j27 < 24)  (h3 : ¬ (nI j27 < 0)) {F : rj_F} : ∀ (r j : Nat) (s : rj_M), j + r = 16 → (True → ra_fo (qX12_costNow_33 μ j27 s27) (bX12_costNow_33 μ j27 s27) r j s) → (rj_R g RX12 cX12_costNow 4 (some .int) wsX12_costNow [] (rj_rm 3 0) F 0 ω (rj_fo (bX12_costNow_33 μ j27 s27) r j s) [(0, .ref (ω.2.2 395)), (1, .int (nI j27)), (2, .int (nI 16))] 76 []) → rj_R g RX12 cX12_costNow 4 (some .int) wsX12_costNow [] (rj_rm 3 0) F 0 ω s [(0, .ref (ω.2.2 395)), (1, .int (nI j27)), (2, .int (nI j))] 33 [] := by
  intro r
  induction r with
  | zero =>
    intro j s hj hq0 K
    have e0 : j = 16 := by omega
    have hge : 16 ≤ nI j := by
      rw [e0]
      exact Int32.le_refl _
    refine rj_iload_n 2 dX12_costNow_33 rfl rfl ?_
    refine rj_bipush (v := 16) dX12_costNow_34 rfl (by decide) ?_
    refine rj_icmp_ge dX12_costNow_36 rfl rfl (fun h6 => ?_) (fun h6 => ?_)
    · have e1 : nI j = nI 16 := by rw [e0]
      rw [e1]
      exact K
    · exact absurd hge h6
  | succ r ih =>
    intro j33 s33 hj hq0 K
    have hl33 : j33 < 16 := by omega
    have hg33 : ¬ 16 ≤ nI j33 := nI_ge hl33 (rj_bl rfl)
    have hqa := ra_fo_q (hq0 True.intro)
    unfold qX12_costNow_33 at hqa
    refine rj_iload_n 2 dX12_costNow_33 rfl rfl ?_
    refine rj_bipush (v := 16) dX12_costNow_34 rfl (by decide) ?_
    refine rj_icmp_ge dX12_costNow_36 rfl rfl (fun h4 => ?_) (fun h4 => ?_)
    · exact absurd h4 hg33
    · refine rj_aload_n 0 dX12_costNow_39 rfl rfl ?_
      refine rj_iload_n 1 dX12_costNow_40 rfl rfl ?_
      refine rj_iload_n 2 dX12_costNow_41 rfl rfl ?_
      refine rj_cV (rest := []) (sX12_cheapest (g := g) (ω := ω) hω s33 (nI j27) (nI j33)  (vp_in_nI hl27 (rj_bl rfl)) (And.left hqa)) gX12_costNow_X12_cheapest (rj_lt hω (k := 395) rfl) (rj_sh hω ly_395) rfl rfl hVX12_cheapest ⟨Nat.le_of_ble_eq_true rfl, Nat.le_of_ble_eq_true rfl⟩ dX12_costNow_42 rfl rfl rfl (Nat.le_of_ble_eq_true rfl) rfl (Nat.le_of_ble_eq_true rfl) rfl ?_
      refine rj_istore_n (l' := [(3, .int (fX12_cheapest s33 (nI j27) (nI j33))), (0, .ref (ω.2.2 395)), (1, .int (nI j27)), (2, .int (nI j33))]) dX12_costNow_45 rfl (rj_bl rfl) rfl ?_
      refine rj_aload_n 1 dX12_costNow_46 rfl rfl ?_
      refine rj_getR (C0 := RX12) (T := TX12) (N := 16) (j := 10) (r := 409) dX12_costNow_47 rfl vX12_costNow_12 rfl (rj_lt hω (k := 395) rfl) (rj_sh hω ly_395) (by decide) kX12_costNow_27 rfl ?_
      refine rj_iload_n 2 dX12_costNow_50 rfl rfl ?_
      have hrow2 := (And.left (And.right hqa))
      refine rj_qaldR dX12_costNow_51 rfl (rj_lt hω (k := 409) rfl) (rj_sh hω ly_409) hrow2 ?_
      refine rj_iload_n 3 dX12_costNow_52 rfl rfl ?_
      refine rj_iload_n 0 dX12_costNow_53 rfl rfl ?_
      refine rj_iconst (v := (-1)) dX12_costNow_54 rfl (by decide) ?_
      refine rj_icmp_ne dX12_costNow_55 rfl rfl (fun h5 => ?_) (fun h5 => ?_)
      · have hq3 := (And.right (And.right (And.right hqa))) h5
        refine rj_aload_n 1 dX12_costNow_62 rfl rfl ?_
        refine rj_iload_n 2 dX12_costNow_63 rfl rfl ?_
        refine rj_iload_n 3 dX12_costNow_64 rfl rfl ?_
        refine rj_iload_n 0 dX12_costNow_65 rfl rfl ?_
        refine rj_cV (rest := [.int (nI j33), .ref (ω.2.2 (s33.2.2.2 409 (nI j27).toNatClampNeg - 1))]) (sX12_costWith (g := g) (ω := ω) hω s33 (nI j27) (nI j33) (fX12_cheapest s33 (nI j27) (nI j33))  (vp_in_nI hl27 (rj_bl rfl)) (And.left hq3) (And.left (And.right hq3))) gX12_costNow_X12_costWith (rj_lt hω (k := 395) rfl) (rj_sh hω ly_395) rfl rfl hVX12_costWith ⟨Nat.le_of_ble_eq_true rfl, Nat.le_of_ble_eq_true rfl⟩ dX12_costNow_66 rfl rfl rfl (Nat.le_of_ble_eq_true rfl) rfl (Nat.le_of_ble_eq_true rfl) rfl ?_
        refine rj_iast dX12_costNow_69 rfl (rj_rowlt hω hrow2 rfl) (rj_rowsh409 hω hrow2) (vp_in_nI hl33 (rj_bl rfl)) ?_
        refine rj_iinc (v := nI (j33 + 1)) (l' := [(2, .int (nI (j33 + 1))), (3, .int (fX12_cheapest s33 (nI j27) (nI j33))), (0, .ref (ω.2.2 395)), (1, .int (nI j27))]) 3 dX12_costNow_70 rfl rfl (nI_succ j33).symm (rj_bl rfl) rfl ?_
        refine rj_goto dX12_costNow_73 rfl ?_
        have e : bX12_costNow_33 μ j27 s27 j33 s33 = (rj_pi s33 (s33.2.2.2 409 (nI j27).toNatClampNeg - 1) (nI j33).toNatClampNeg (fX12_costWith s33 (nI j27) (nI j33) (fX12_cheapest s33 (nI j27) (nI j33)))) := by unfold bX12_costNow_33; rw [if_neg h5]; try rfl
        exact rj_sub (l' := [(0, .ref (ω.2.2 395)), (1, .int (nI j27)), (2, .int (nI (j33 + 1)))]) [2, 3, 0] rfl (ih (j33 + 1) (rj_pi s33 (s33.2.2.2 409 (nI j27).toNatClampNeg - 1) (nI j33).toNatClampNeg (fX12_costWith s33 (nI j27) (nI j33) (fX12_cheapest s33 (nI j27) (nI j33)))) (by omega) (fun _ => ra_fo_n (hq0 True.intro) e) (by rw [rj_fo_s (r := r), e] at K; exact K))
      · skip
        refine rj_iconst (v := (-1)) dX12_costNow_58 rfl (by decide) ?_
        refine rj_goto dX12_costNow_59 rfl ?_
        refine rj_iast dX12_costNow_69 rfl (rj_rowlt hω hrow2 rfl) (rj_rowsh409 hω hrow2) (vp_in_nI hl33 (rj_bl rfl)) ?_
        refine rj_iinc (v := nI (j33 + 1)) (l' := [(2, .int (nI (j33 + 1))), (3, .int (fX12_cheapest s33 (nI j27) (nI j33))), (0, .ref (ω.2.2 395)), (1, .int (nI j27))]) 3 dX12_costNow_70 rfl rfl (nI_succ j33).symm (rj_bl rfl) rfl ?_
        refine rj_goto dX12_costNow_73 rfl ?_
        have e : bX12_costNow_33 μ j27 s27 j33 s33 = (rj_pi s33 (s33.2.2.2 409 (nI j27).toNatClampNeg - 1) (nI j33).toNatClampNeg (-1)) := by unfold bX12_costNow_33; rw [if_pos h5]; try rfl
        exact rj_sub (l' := [(0, .ref (ω.2.2 395)), (1, .int (nI j27)), (2, .int (nI (j33 + 1)))]) [2, 3, 0] rfl (ih (j33 + 1) (rj_pi s33 (s33.2.2.2 409 (nI j27).toNatClampNeg - 1) (nI j33).toNatClampNeg (-1)) (by omega) (fun _ => ra_fo_n (hq0 True.intro) e) (by rw [rj_fo_s (r := r), e] at K; exact K))
noncomputable def bX12_costNow_27 (μ : rj_M) (j27 : Nat) (s27 : rj_M) : rj_M := (rj_fo (bX12_costNow_33 μ j27 s27) 16 0 s27)
noncomputable def qX12_costNow_27 (μ : rj_M) (j27 : Nat) (s27 : rj_M) : Prop := ((True → ra_fo (qX12_costNow_33 μ j27 s27) (bX12_costNow_33 μ j27 s27) 16 0 s27) ∧ True)
set_option maxHeartbeats 4000000 in
set_option maxRecDepth 100000 in
theorem lX12_costNow_27 {g : rj_G} {ω : rj_W} (hω : rj_ok ω) (μ : rj_M)     {F : rj_F} : ∀ (r : Nat) (s : rj_M), r ≤ 24 → (True → ra_do (qX12_costNow_27 μ) (bX12_costNow_27 μ) r s) → (rj_R g RX12 cX12_costNow 4 (some .int) wsX12_costNow [] (rj_rm 3 0) F 0 ω (rj_do (bX12_costNow_27 μ) r s) [(0, .ref (ω.2.2 395)), (1, .int (nI 0 - 1))] 82 []) → rj_R g RX12 cX12_costNow 4 (some .int) wsX12_costNow [] (rj_rm 3 0) F 0 ω s [(0, .ref (ω.2.2 395)), (1, .int (nI r - 1))] 27 [] := by
  intro r
  induction r with
  | zero =>
    intro s hj hq0 K
    have hge : nI 0 - 1 < 0 := by decide
    refine rj_iload_n 1 dX12_costNow_27 rfl rfl ?_
    refine rj_if_lt dX12_costNow_28 rfl rfl (fun h7 => ?_) (fun h7 => ?_)
    · exact K
    · exact absurd hge h7
  | succ j27 ih =>
    intro s27 hj hq0 K
    have hl27 : j27 < 24 := by omega
    have hg27 : ¬ nI j27 < 0 := nI_pos (Nat.lt_trans hl27 (rj_bl rfl))
    rw [show nI (j27 + 1) - 1 = nI j27 from nI_pred j27]
    have hqa := ra_do_q (hq0 True.intro)
    unfold qX12_costNow_27 at hqa
    refine rj_iload_n 1 dX12_costNow_27 rfl rfl ?_
    refine rj_if_lt dX12_costNow_28 rfl rfl (fun h3 => ?_) (fun h3 => ?_)
    · exact absurd h3 hg27
    · refine rj_iconst (v := 0) dX12_costNow_31 rfl (by decide) ?_
      refine rj_istore_n (l' := [(2, .int 0), (0, .ref (ω.2.2 395)), (1, .int (nI j27))]) dX12_costNow_32 rfl (rj_bl rfl) rfl ?_
      refine rj_sub (l' := [(0, .ref (ω.2.2 395)), (1, .int (nI j27)), (2, .int (nI 0))]) [1, 2, 0] rfl ?_
      refine lX12_costNow_33 hω μ j27 s27   hl27  h3 16 0 s27 rfl (And.left hqa) ?_
      refine rj_iinc (v := (nI j27) + (-1)) (l' := [(1, .int ((nI j27) + (-1))), (0, .ref (ω.2.2 395)), (2, .int (nI 16))]) 1 dX12_costNow_76 rfl rfl rfl (rj_bl rfl) rfl ?_
      refine rj_goto dX12_costNow_79 rfl ?_
      have e : bX12_costNow_27 μ j27 s27 = (rj_fo (bX12_costNow_33 μ j27 s27) 16 0 s27) := by unfold bX12_costNow_27; rfl
      rw [show nI j27 + (-1) = nI j27 - 1 from (Int32.sub_eq_add_neg ..).symm]
      exact rj_sub (l' := [(0, .ref (ω.2.2 395)), (1, .int (nI j27 - 1))]) [1, 0] rfl (ih (rj_fo (bX12_costNow_33 μ j27 s27) 16 0 s27) (by omega) (fun _ => ra_do_n (hq0 True.intro) e) (by rw [rj_do_s (r := j27), e] at K; exact K))
noncomputable def fX12_costNow (μ : rj_M) : Int32 := ((rj_do (bX12_costNow_27 μ) 24 (rj_fo (bX12_costNow_2 μ) 16 0 μ)).1 ((rj_do (bX12_costNow_27 μ) 24 (rj_fo (bX12_costNow_2 μ) 16 0 μ)).2.2.2 409 (0 : Int32).toNatClampNeg - 1) (0 : Int32).toNatClampNeg)
noncomputable def mX12_costNow (μ : rj_M) : rj_M := (rj_do (bX12_costNow_27 μ) 24 (rj_fo (bX12_costNow_2 μ) 16 0 μ))
noncomputable def qX12_costNow (μ : rj_M) : Prop := ((True → ra_fo (qX12_costNow_2 μ) (bX12_costNow_2 μ) 16 0 μ) ∧ ((True → ra_do (qX12_costNow_27 μ) (bX12_costNow_27 μ) 24 (rj_fo (bX12_costNow_2 μ) 16 0 μ)) ∧ (rj_row (rj_do (bX12_costNow_27 μ) 24 (rj_fo (bX12_costNow_2 μ) 16 0 μ)) 409 25 410 435 0 ∧ True)))
set_option maxHeartbeats 40000000 in
set_option maxRecDepth 100000 in
theorem sX12_costNow {g : rj_G} {ω : rj_W} (hω : rj_ok ω) (μ : rj_M)   (hq : qX12_costNow μ) : rj_Sp g yX12_costNow wsX12_costNow (rj_rm 3 0) [.ref (ω.2.2 395)] ω μ (rj_D (.inl (some (.int (fX12_costNow μ)))) ω (mX12_costNow μ)) := by
  have hqa := hq
  unfold qX12_costNow at hqa
  refine rj_of' (cc := cX12_costNow) (nL := 4) (ret := (some .int)) (own := RX12) (l0 := [(0, .ref (ω.2.2 395))]) rfl (by decide +kernel) rfl (Nat.le_of_ble_eq_true rfl) rfl ?_
  refine rj_iconst (v := 0) dX12_costNow_0 rfl (by decide) ?_
  refine rj_istore_n (l' := [(1, .int 0), (0, .ref (ω.2.2 395))]) dX12_costNow_1 rfl (rj_bl rfl) rfl ?_
  refine rj_sub (l' := [(0, .ref (ω.2.2 395)), (1, .int (nI 0))]) [1, 0] rfl ?_
  refine lX12_costNow_2 hω μ      16 0 μ rfl (And.left hqa) ?_
  refine rj_bipush (v := 23) dX12_costNow_24 rfl (by decide) ?_
  refine rj_istore_n (l' := [(1, .int 23), (0, .ref (ω.2.2 395))]) dX12_costNow_26 rfl (rj_bl rfl) rfl ?_
  refine rj_sub (l' := [(0, .ref (ω.2.2 395)), (1, .int (nI 24 - 1))]) [1, 0] rfl ?_
  refine lX12_costNow_27 hω μ     24 (rj_fo (bX12_costNow_2 μ) 16 0 μ) (Nat.le_refl _) (And.left (And.right hqa)) ?_
  refine rj_aload_n 0 dX12_costNow_82 rfl rfl ?_
  refine rj_getR (C0 := RX12) (T := TX12) (N := 16) (j := 10) (r := 409) dX12_costNow_83 rfl vX12_costNow_12 rfl (rj_lt hω (k := 395) rfl) (rj_sh hω ly_395) (by decide) kX12_costNow_27 rfl ?_
  refine rj_iconst (v := 0) dX12_costNow_86 rfl (by decide) ?_
  have hrow5 := (And.left (And.right (And.right hqa)))
  refine rj_qaldR dX12_costNow_87 rfl (rj_lt hω (k := 409) rfl) (rj_sh hω ly_409) hrow5 ?_
  refine rj_iconst (v := 0) dX12_costNow_88 rfl (by decide) ?_
  refine rj_iald dX12_costNow_89 rfl (rj_rowlt hω hrow5 rfl) (rj_rowsh409 hω hrow5) (vp_in_nI (n := 0) (rj_bl rfl) (rj_bl rfl)) ?_
  exact rj_iret dX12_costNow_90 rfl (Nat.le_of_ble_eq_true rfl) (Nat.le_of_ble_eq_true rfl) ⟨(by unfold fX12_costNow; rfl), rfl, (by unfold mX12_costNow; rfl)⟩
