theorem hSX12_cost : yX12_cost.cls ≠ "java/lang/invoke/MethodHandle" ∧ yX12_cost.cls ≠ "java/lang/invoke/VarHandle" ∧ (parseMethodDescriptor yX12_cost.desc).map (fun d => d.parameters.length) = some 0 := by decide +kernel
theorem hVX12_cost : yX12_cost.cls = RX12 ∧ yX12_cost.cls ≠ "java/lang/invoke/MethodHandle" ∧ yX12_cost.cls ≠ "java/lang/invoke/VarHandle" ∧ (parseMethodDescriptor yX12_cost.desc).map (fun d => d.parameters.length) = some 0 := by decide +kernel
theorem vX12_cost_12 : ∀ w ∈ u_ws RX12 TX12 16, w ∈ wsX12_cost := by decide +kernel
theorem kX12_cost_39 : Cond.fieldLink RX12 39 (TX12 0).1 (TX12 0).2.1 (TX12 0).2.2.1 ∈ wsX12_cost := by decide +kernel
noncomputable def fX12_cost (μ : rj_M) : Int32 := (fX12_costNow (rj_pi μ 395 0 0))
noncomputable def mX12_cost (μ : rj_M) : rj_M := (mX12_costNow (rj_pi μ 395 0 0))
noncomputable def qX12_cost (μ : rj_M) : Prop := (qX12_costNow (rj_pi μ 395 0 0) ∧ True)
set_option maxHeartbeats 40000000 in
set_option maxRecDepth 100000 in
theorem sX12_cost {g : rj_G} {ω : rj_W} (hω : rj_ok ω) (μ : rj_M)   (hq : qX12_cost μ) : rj_Sp g yX12_cost wsX12_cost (rj_rm 4 0) [.ref (ω.2.2 395)] ω μ (rj_D (.inl (some (.int (fX12_cost μ)))) ω (mX12_cost μ)) := by
  have hqa := hq
  unfold qX12_cost at hqa
  refine rj_of' (cc := cX12_cost) (nL := 1) (ret := (some .int)) (own := RX12) (l0 := [(0, .ref (ω.2.2 395))]) rfl (by decide +kernel) rfl (Nat.le_of_ble_eq_true rfl) rfl ?_
  refine rj_aload_n 0 dX12_cost_0 rfl rfl ?_
  refine rj_iconst (v := 0) dX12_cost_1 rfl (by decide) ?_
  refine rj_putI (C0 := RX12) (T := TX12) (N := 16) (j := 0) dX12_cost_2 rfl vX12_cost_12 rfl (rj_lt hω (k := 395) rfl) (rj_sh hω ly_395) (by decide) kX12_cost_39 tyX12 tyX12_ok nmX12 rfl rfl rfl rfl ?_
  refine rj_aload_n 0 dX12_cost_5 rfl rfl ?_
  refine rj_cV (rest := []) (sX12_costNow (g := g) (ω := ω) hω (rj_pi μ 395 0 0)   (And.left hqa)) gX12_cost_X12_costNow (rj_lt hω (k := 395) rfl) (rj_sh hω ly_395) rfl rfl hVX12_costNow ⟨Nat.le_of_ble_eq_true rfl, Nat.le_of_ble_eq_true rfl⟩ dX12_cost_6 rfl rfl rfl (Nat.le_of_ble_eq_true rfl) rfl (Nat.le_of_ble_eq_true rfl) rfl ?_
  exact rj_iret dX12_cost_9 rfl (Nat.le_of_ble_eq_true rfl) (Nat.le_of_ble_eq_true rfl) ⟨(by unfold fX12_cost; rfl), rfl, (by unfold mX12_cost; rfl)⟩
theorem hSX12_isOn : yX12_isOn.cls ≠ "java/lang/invoke/MethodHandle" ∧ yX12_isOn.cls ≠ "java/lang/invoke/VarHandle" ∧ (parseMethodDescriptor yX12_isOn.desc).map (fun d => d.parameters.length) = some 1 := by decide +kernel
theorem hVX12_isOn : yX12_isOn.cls = RX12 ∧ yX12_isOn.cls ≠ "java/lang/invoke/MethodHandle" ∧ yX12_isOn.cls ≠ "java/lang/invoke/VarHandle" ∧ (parseMethodDescriptor yX12_isOn.desc).map (fun d => d.parameters.length) = some 1 := by decide +kernel
noncomputable def bX12_isOn_38 (μ : rj_M) (a0 : Int32) (s38 : Int32 × Int32) : (Int32 × Int32) ⊕ (Int32 × Int32) := (if a0 < s38.2 then .inr (s38.1, s38.2) else .inl ((fX12_cheapest (mX12_costNow (mX12_lacks μ (fX12_isHour μ a0))) s38.2 s38.1), s38.2 + 1))
noncomputable def qX12_isOn_38 (μ : rj_M) (a0 : Int32) (s38 : Int32 × Int32) : Prop := (((a0 < s38.2) → True) ∧ ((¬ (a0 < s38.2)) → (vp_in s38.2 24 ∧ qX12_cheapest (mX12_costNow (mX12_lacks μ (fX12_isHour μ a0))) s38.2 s38.1 ∧ True)))
set_option maxHeartbeats 4000000 in
set_option maxRecDepth 100000 in
theorem lX12_isOn_38 {g : rj_G} {ω : rj_W} (hω : rj_ok ω) (μ : rj_M) (a0 : Int32)    (h1 : ((fX12_lacks μ (fX12_isHour μ a0)) = 0)) (h2 : ¬ ((fX12_costNow (mX12_lacks μ (fX12_isHour μ a0))) = (-1))) {F : rj_F} : ∀ (r : Nat) (s : Int32 × Int32), (True → ra_we (qX12_isOn_38 μ a0) (bX12_isOn_38 μ a0) r s) → (rj_R g RX12 cX12_isOn 4 (some .int) wsX12_isOn [] (rj_rm 4 0) F 0 ω (mX12_costNow (mX12_lacks μ (fX12_isHour μ a0))) [(0, .ref (ω.2.2 395)), (1, .int a0), (2, .int ((rj_we (bX12_isOn_38 μ a0) r s).1)), (3, .int ((rj_we (bX12_isOn_38 μ a0) r s).2))] 56 []) → rj_R g RX12 cX12_isOn 4 (some .int) wsX12_isOn [] (rj_rm 4 0) F 0 ω (mX12_costNow (mX12_lacks μ (fX12_isHour μ a0))) [(0, .ref (ω.2.2 395)), (1, .int a0), (2, .int s.1), (3, .int s.2)] 38 [] := by
  intro r
  induction r with
  | zero =>
    intro s hq0 K
    exact (ra_we_0 (hq0 True.intro)).elim
  | succ r ih =>
    intro s38 hq0 K
    have hqa := ra_we_q (hq0 True.intro)
    unfold qX12_isOn_38 at hqa
    refine rj_iload_n 3 dX12_isOn_38 rfl rfl ?_
    refine rj_iload_n 1 dX12_isOn_39 rfl rfl ?_
    refine rj_icmp_gt dX12_isOn_40 rfl rfl (fun h5 => ?_) (fun h5 => ?_)
    · skip
      have e : bX12_isOn_38 μ a0 s38 = .inr (s38.1, s38.2) := by unfold bX12_isOn_38; rw [if_pos h5]; try rfl
      exact rj_sub (l' := [(0, .ref (ω.2.2 395)), (1, .int a0), (2, .int s38.1), (3, .int s38.2)]) [0, 1, 2, 3] rfl (by rw [rj_we_r e] at K; exact K)
    · have hq6 := (And.right hqa) h5
      refine rj_aload_n 0 dX12_isOn_43 rfl rfl ?_
      refine rj_iload_n 3 dX12_isOn_44 rfl rfl ?_
      refine rj_iload_n 2 dX12_isOn_45 rfl rfl ?_
      refine rj_cV (rest := []) (sX12_cheapest (g := g) (ω := ω) hω (mX12_costNow (mX12_lacks μ (fX12_isHour μ a0))) s38.2 s38.1  (And.left hq6) (And.left (And.right hq6))) gX12_isOn_X12_cheapest (rj_lt hω (k := 395) rfl) (rj_sh hω ly_395) rfl rfl hVX12_cheapest ⟨Nat.le_of_ble_eq_true rfl, Nat.le_of_ble_eq_true rfl⟩ dX12_isOn_46 rfl rfl rfl (Nat.le_of_ble_eq_true rfl) rfl (Nat.le_of_ble_eq_true rfl) rfl ?_
      refine rj_istore_n (l' := [(2, .int (fX12_cheapest (mX12_costNow (mX12_lacks μ (fX12_isHour μ a0))) s38.2 s38.1)), (0, .ref (ω.2.2 395)), (1, .int a0), (3, .int s38.2)]) dX12_isOn_49 rfl (rj_bl rfl) rfl ?_
      refine rj_iinc (v := s38.2 + 1) (l' := [(3, .int (s38.2 + 1)), (2, .int (fX12_cheapest (mX12_costNow (mX12_lacks μ (fX12_isHour μ a0))) s38.2 s38.1)), (0, .ref (ω.2.2 395)), (1, .int a0)]) 3 dX12_isOn_50 rfl rfl rfl (rj_bl rfl) rfl ?_
      refine rj_goto dX12_isOn_53 rfl ?_
      have e : bX12_isOn_38 μ a0 s38 = .inl ((fX12_cheapest (mX12_costNow (mX12_lacks μ (fX12_isHour μ a0))) s38.2 s38.1), s38.2 + 1) := by unfold bX12_isOn_38; rw [if_neg h5]; try rfl
      exact rj_sub (l' := [(0, .ref (ω.2.2 395)), (1, .int a0), (2, .int (fX12_cheapest (mX12_costNow (mX12_lacks μ (fX12_isHour μ a0))) s38.2 s38.1)), (3, .int (s38.2 + 1))]) [2, 3, 1, 0] rfl (ih ((fX12_cheapest (mX12_costNow (mX12_lacks μ (fX12_isHour μ a0))) s38.2 s38.1), s38.2 + 1) (fun _ => ra_we_n (hq0 True.intro) e) (by rw [rj_we_l e] at K; exact K))
set_option maxHeartbeats 4000000 in
theorem lX12_isOn_38u {g : rj_G} {ω : rj_W} (hω : rj_ok ω) (μ : rj_M) (a0 : Int32)    (h1 : ((fX12_lacks μ (fX12_isHour μ a0)) = 0)) (h2 : ¬ ((fX12_costNow (mX12_lacks μ (fX12_isHour μ a0))) = (-1))) {F : rj_F} : ∀ (r : Nat) (c0 : Int32) (c1 : Int32), (True → ra_we (qX12_isOn_38 μ a0) (bX12_isOn_38 μ a0) r (c0, c1)) → (rj_R g RX12 cX12_isOn 4 (some .int) wsX12_isOn [] (rj_rm 4 0) F 0 ω (mX12_costNow (mX12_lacks μ (fX12_isHour μ a0))) [(0, .ref (ω.2.2 395)), (1, .int a0), (2, .int ((rj_we (bX12_isOn_38 μ a0) r (c0, c1)).1)), (3, .int ((rj_we (bX12_isOn_38 μ a0) r (c0, c1)).2))] 56 []) → rj_R g RX12 cX12_isOn 4 (some .int) wsX12_isOn [] (rj_rm 4 0) F 0 ω (mX12_costNow (mX12_lacks μ (fX12_isHour μ a0))) [(0, .ref (ω.2.2 395)), (1, .int a0), (2, .int c0), (3, .int c1)] 38 [] := fun r c0 c1 => lX12_isOn_38 hω μ a0    h1 h2 r (c0, c1)
noncomputable def fX12_isOn (μ : rj_M) (a0 : Int32) : Int32 := (if (fX12_lacks μ (fX12_isHour μ a0)) = 0 then (if (fX12_costNow (mX12_lacks μ (fX12_isHour μ a0))) = (-1) then 0 else (rj_we (bX12_isOn_38 μ a0) 25 (0, 0)).1) else 0)
noncomputable def mX12_isOn (μ : rj_M) (a0 : Int32) : rj_M := (if (fX12_lacks μ (fX12_isHour μ a0)) = 0 then (if (fX12_costNow (mX12_lacks μ (fX12_isHour μ a0))) = (-1) then (mX12_noF (mX12_costNow (mX12_lacks μ (fX12_isHour μ a0))) 2) else (mX12_costNow (mX12_lacks μ (fX12_isHour μ a0)))) else (mX12_lacks μ (fX12_isHour μ a0)))
noncomputable def qX12_isOn (μ : rj_M) (a0 : Int32) : Prop := ((((fX12_lacks μ (fX12_isHour μ a0)) = 0) → (qX12_costNow (mX12_lacks μ (fX12_isHour μ a0)) ∧ ((((fX12_costNow (mX12_lacks μ (fX12_isHour μ a0))) = (-1)) → True) ∧ ((¬ ((fX12_costNow (mX12_lacks μ (fX12_isHour μ a0))) = (-1))) → ((True → ra_we (qX12_isOn_38 μ a0) (bX12_isOn_38 μ a0) 25 (0, 0)) ∧ True))))) ∧ ((¬ ((fX12_lacks μ (fX12_isHour μ a0)) = 0)) → True))
set_option maxHeartbeats 40000000 in
set_option maxRecDepth 100000 in
theorem sX12_isOn {g : rj_G} {ω : rj_W} (hω : rj_ok ω) (μ : rj_M) (a0 : Int32)   (hq : qX12_isOn μ a0) : rj_Sp g yX12_isOn wsX12_isOn (rj_rm 4 0) [.ref (ω.2.2 395), .int a0] ω μ (rj_D (.inl (some (.int (fX12_isOn μ a0)))) ω (mX12_isOn μ a0)) := by
  have hqa := hq
  unfold qX12_isOn at hqa
  refine rj_of' (cc := cX12_isOn) (nL := 4) (ret := (some .int)) (own := RX12) (l0 := [(0, .ref (ω.2.2 395)), (1, .int a0)]) rfl (by decide +kernel) rfl (Nat.le_of_ble_eq_true rfl) rfl ?_
  refine rj_aload_n 0 dX12_isOn_0 rfl rfl ?_
  refine rj_iload_n 1 dX12_isOn_1 rfl rfl ?_
  refine rj_cS (rest := [.ref (ω.2.2 395)]) (sX12_isHour (g := g) (ω := ω) hω μ a0   ) gX12_isOn_X12_isHour rfl hSX12_isHour ⟨Nat.le_of_ble_eq_true rfl, Nat.le_of_ble_eq_true rfl⟩ dX12_isOn_2 rfl rfl rfl (Nat.le_of_ble_eq_true rfl) rfl (Nat.le_of_ble_eq_true rfl) rfl ?_
  refine rj_cV (rest := []) (sX12_lacks (g := g) (ω := ω) hω μ (fX12_isHour μ a0)   ) gX12_isOn_X12_lacks (rj_lt hω (k := 395) rfl) (rj_sh hω ly_395) rfl rfl hVX12_lacks ⟨Nat.le_of_ble_eq_true rfl, Nat.le_of_ble_eq_true rfl⟩ dX12_isOn_5 rfl rfl rfl (Nat.le_of_ble_eq_true rfl) rfl (Nat.le_of_ble_eq_true rfl) rfl ?_
  refine rj_if_ne dX12_isOn_8 rfl rfl (fun h1 => ?_) (fun h1 => ?_)
  · skip
    refine rj_iconst (v := 0) dX12_isOn_32 rfl (by decide) ?_
    exact rj_iret dX12_isOn_33 rfl (Nat.le_of_ble_eq_true rfl) (Nat.le_of_ble_eq_true rfl) ⟨(by unfold fX12_isOn; rw [if_neg h1]; try rfl), rfl, (by unfold mX12_isOn; rw [if_neg h1]; try rfl)⟩
  · have hq2 := (And.left hqa) h1
    refine rj_aload_n 0 dX12_isOn_11 rfl rfl ?_
    refine rj_aload_n 0 dX12_isOn_12 rfl rfl ?_
    refine rj_cV (rest := [.ref (ω.2.2 395)]) (sX12_costNow (g := g) (ω := ω) hω (mX12_lacks μ (fX12_isHour μ a0))   (And.left hq2)) gX12_isOn_X12_costNow (rj_lt hω (k := 395) rfl) (rj_sh hω ly_395) rfl rfl hVX12_costNow ⟨Nat.le_of_ble_eq_true rfl, Nat.le_of_ble_eq_true rfl⟩ dX12_isOn_13 rfl rfl rfl (Nat.le_of_ble_eq_true rfl) rfl (Nat.le_of_ble_eq_true rfl) rfl ?_
    refine rj_iconst (v := (-1)) dX12_isOn_16 rfl (by decide) ?_
    refine rj_icmp_eq dX12_isOn_17 rfl rfl (fun h2 => ?_) (fun h2 => ?_)
    · skip
      refine rj_iconst (v := 0) dX12_isOn_24 rfl (by decide) ?_
      refine rj_iconst (v := 2) dX12_isOn_25 rfl (by decide) ?_
      refine rj_cV (rest := []) (sX12_noF (g := g) (ω := ω) hω (mX12_costNow (mX12_lacks μ (fX12_isHour μ a0))) 2   ) gX12_isOn_X12_no (rj_lt hω (k := 395) rfl) (rj_sh hω ly_395) rfl rfl hVX12_no ⟨Nat.le_of_ble_eq_true rfl, Nat.le_of_ble_eq_true rfl⟩ dX12_isOn_26 rfl rfl rfl (Nat.le_of_ble_eq_true rfl) rfl (Nat.le_of_ble_eq_true rfl) rfl ?_
      refine rj_if_eq dX12_isOn_29 rfl rfl (fun h3 => ?_) (fun h3 => ?_)
      · exact absurd h3 (by decide)
      · refine rj_iconst (v := 0) dX12_isOn_32 rfl (by decide) ?_
        exact rj_iret dX12_isOn_33 rfl (Nat.le_of_ble_eq_true rfl) (Nat.le_of_ble_eq_true rfl) ⟨(by unfold fX12_isOn; rw [if_pos h1]; rw [if_pos h2]; try rfl), rfl, (by unfold mX12_isOn; rw [if_pos h1]; rw [if_pos h2]; try rfl)⟩
    · have hq4 := (And.right (And.right hq2)) h2
      refine rj_iconst (v := 1) dX12_isOn_20 rfl (by decide) ?_
      refine rj_goto dX12_isOn_21 rfl ?_
      refine rj_iconst (v := 2) dX12_isOn_25 rfl (by decide) ?_
      refine rj_cV (rest := []) (sX12_noT (g := g) (ω := ω) hω (mX12_costNow (mX12_lacks μ (fX12_isHour μ a0))) 2   ) gX12_isOn_X12_no (rj_lt hω (k := 395) rfl) (rj_sh hω ly_395) rfl rfl hVX12_no ⟨Nat.le_of_ble_eq_true rfl, Nat.le_of_ble_eq_true rfl⟩ dX12_isOn_26 rfl rfl rfl (Nat.le_of_ble_eq_true rfl) rfl (Nat.le_of_ble_eq_true rfl) rfl ?_
      refine rj_if_eq dX12_isOn_29 rfl rfl (fun h4 => ?_) (fun h4 => ?_)
      · refine rj_iconst (v := 0) dX12_isOn_34 rfl (by decide) ?_
        refine rj_istore_n (l' := [(2, .int 0), (0, .ref (ω.2.2 395)), (1, .int a0)]) dX12_isOn_35 rfl (rj_bl rfl) rfl ?_
        refine rj_iconst (v := 0) dX12_isOn_36 rfl (by decide) ?_
        refine rj_istore_n (l' := [(3, .int 0), (2, .int 0), (0, .ref (ω.2.2 395)), (1, .int a0)]) dX12_isOn_37 rfl (rj_bl rfl) rfl ?_
        refine rj_sub (l' := [(0, .ref (ω.2.2 395)), (1, .int a0), (2, .int 0), (3, .int 0)]) [2, 3, 1, 0] rfl ?_
        refine lX12_isOn_38u hω μ a0    h1 h2 25 0 0 (And.left hq4) ?_
        refine rj_iload_n 2 dX12_isOn_56 rfl rfl ?_
        exact rj_iret dX12_isOn_57 rfl (Nat.le_of_ble_eq_true rfl) (Nat.le_of_ble_eq_true rfl) ⟨(by unfold fX12_isOn; rw [if_pos h1]; rw [if_neg h2]; try rfl), rfl, (by unfold mX12_isOn; rw [if_pos h1]; rw [if_neg h2]; try rfl)⟩
      · exact absurd (by decide) h4
