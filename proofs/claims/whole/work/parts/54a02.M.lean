theorem hSX12_movedTo : yX12_movedTo.cls ≠ "java/lang/invoke/MethodHandle" ∧ yX12_movedTo.cls ≠ "java/lang/invoke/VarHandle" ∧ (parseMethodDescriptor yX12_movedTo.desc).map (fun d => d.parameters.length) = some 1 := by decide +kernel
theorem hVX12_movedTo : yX12_movedTo.cls = RX12 ∧ yX12_movedTo.cls ≠ "java/lang/invoke/MethodHandle" ∧ yX12_movedTo.cls ≠ "java/lang/invoke/VarHandle" ∧ (parseMethodDescriptor yX12_movedTo.desc).map (fun d => d.parameters.length) = some 1 := by decide +kernel
theorem vX12_movedTo_12 : ∀ w ∈ u_ws RX12 TX12 16, w ∈ wsX12_movedTo := by decide +kernel
theorem kX12_movedTo_64 : Cond.fieldLink RX12 64 (TX12 11).1 (TX12 11).2.1 (TX12 11).2.2.1 ∈ wsX12_movedTo := by decide +kernel
theorem kX12_movedTo_30 : Cond.fieldLink RX12 30 (TX12 12).1 (TX12 12).2.1 (TX12 12).2.2.1 ∈ wsX12_movedTo := by decide +kernel
noncomputable def fX12_movedTo (μ : rj_M) (a0 : Int32) : Int32 := (if (fX12_lacks μ (fX12_isAct μ a0)) = 0 then (if ((mX12_lacks μ (fX12_isAct μ a0)).1 395 11) = 0 then (-1) else ((mX12_lacks μ (fX12_isAct μ a0)).1 435 a0.toNatClampNeg)) else 0)
noncomputable def mX12_movedTo (μ : rj_M) (a0 : Int32) : rj_M := (if (fX12_lacks μ (fX12_isAct μ a0)) = 0 then (if ((mX12_lacks μ (fX12_isAct μ a0)).1 395 11) = 0 then (mX12_lacks μ (fX12_isAct μ a0)) else (mX12_lacks μ (fX12_isAct μ a0))) else (mX12_lacks μ (fX12_isAct μ a0)))
noncomputable def qX12_movedTo (μ : rj_M) (a0 : Int32) : Prop := ((((fX12_lacks μ (fX12_isAct μ a0)) = 0) → (((((mX12_lacks μ (fX12_isAct μ a0)).1 395 11) = 0) → True) ∧ ((¬ (((mX12_lacks μ (fX12_isAct μ a0)).1 395 11) = 0)) → (vp_in a0 16 ∧ True)))) ∧ ((¬ ((fX12_lacks μ (fX12_isAct μ a0)) = 0)) → True))
set_option maxHeartbeats 40000000 in
set_option maxRecDepth 100000 in
theorem sX12_movedTo {g : rj_G} {ω : rj_W} (hω : rj_ok ω) (μ : rj_M) (a0 : Int32)   (hq : qX12_movedTo μ a0) : rj_Sp g yX12_movedTo wsX12_movedTo (rj_rm 2 0) [.ref (ω.2.2 395), .int a0] ω μ (rj_D (.inl (some (.int (fX12_movedTo μ a0)))) ω (mX12_movedTo μ a0)) := by
  have hqa := hq
  unfold qX12_movedTo at hqa
  refine rj_of' (cc := cX12_movedTo) (nL := 2) (ret := (some .int)) (own := RX12) (l0 := [(0, .ref (ω.2.2 395)), (1, .int a0)]) rfl (by decide +kernel) rfl (Nat.le_of_ble_eq_true rfl) rfl ?_
  refine rj_aload_n 0 dX12_movedTo_0 rfl rfl ?_
  refine rj_aload_n 0 dX12_movedTo_1 rfl rfl ?_
  refine rj_iload_n 1 dX12_movedTo_2 rfl rfl ?_
  refine rj_cV (rest := [.ref (ω.2.2 395)]) (sX12_isAct (g := g) (ω := ω) hω μ a0   ) gX12_movedTo_X12_isAct (rj_lt hω (k := 395) rfl) (rj_sh hω ly_395) rfl rfl hVX12_isAct ⟨Nat.le_of_ble_eq_true rfl, Nat.le_of_ble_eq_true rfl⟩ dX12_movedTo_3 rfl rfl rfl (Nat.le_of_ble_eq_true rfl) rfl (Nat.le_of_ble_eq_true rfl) rfl ?_
  refine rj_cV (rest := []) (sX12_lacks (g := g) (ω := ω) hω μ (fX12_isAct μ a0)   ) gX12_movedTo_X12_lacks (rj_lt hω (k := 395) rfl) (rj_sh hω ly_395) rfl rfl hVX12_lacks ⟨Nat.le_of_ble_eq_true rfl, Nat.le_of_ble_eq_true rfl⟩ dX12_movedTo_6 rfl rfl rfl (Nat.le_of_ble_eq_true rfl) rfl (Nat.le_of_ble_eq_true rfl) rfl ?_
  refine rj_if_eq dX12_movedTo_9 rfl rfl (fun h1 => ?_) (fun h1 => ?_)
  · have hq1 := (And.left hqa) h1
    refine rj_aload_n 0 dX12_movedTo_16 rfl rfl ?_
    refine rj_getI (C0 := RX12) (T := TX12) (N := 16) (j := 11) dX12_movedTo_17 rfl vX12_movedTo_12 rfl (rj_lt hω (k := 395) rfl) (rj_sh hω ly_395) (by decide) kX12_movedTo_64 rfl ?_
    refine rj_if_eq dX12_movedTo_20 rfl rfl (fun h2 => ?_) (fun h2 => ?_)
    · skip
      refine rj_iconst (v := (-1)) dX12_movedTo_32 rfl (by decide) ?_
      exact rj_iret dX12_movedTo_33 rfl (Nat.le_of_ble_eq_true rfl) (Nat.le_of_ble_eq_true rfl) ⟨(by unfold fX12_movedTo; rw [if_pos h1]; rw [if_pos h2]; try rfl), rfl, (by unfold mX12_movedTo; rw [if_pos h1]; rw [if_pos h2]; try rfl)⟩
    · have hq3 := (And.right hq1) h2
      refine rj_aload_n 0 dX12_movedTo_23 rfl rfl ?_
      refine rj_getR (C0 := RX12) (T := TX12) (N := 16) (j := 12) (r := 435) dX12_movedTo_24 rfl vX12_movedTo_12 rfl (rj_lt hω (k := 395) rfl) (rj_sh hω ly_395) (by decide) kX12_movedTo_30 rfl ?_
      refine rj_iload_n 1 dX12_movedTo_27 rfl rfl ?_
      refine rj_iald dX12_movedTo_28 rfl (rj_lt hω (k := 435) rfl) (rj_sh hω ly_435) (And.left hq3) ?_
      refine rj_goto dX12_movedTo_29 rfl ?_
      exact rj_iret dX12_movedTo_33 rfl (Nat.le_of_ble_eq_true rfl) (Nat.le_of_ble_eq_true rfl) ⟨(by unfold fX12_movedTo; rw [if_pos h1]; rw [if_neg h2]; try rfl), rfl, (by unfold mX12_movedTo; rw [if_pos h1]; rw [if_neg h2]; try rfl)⟩
  · skip
    refine rj_iconst (v := 0) dX12_movedTo_12 rfl (by decide) ?_
    refine rj_goto dX12_movedTo_13 rfl ?_
    exact rj_iret dX12_movedTo_33 rfl (Nat.le_of_ble_eq_true rfl) (Nat.le_of_ble_eq_true rfl) ⟨(by unfold fX12_movedTo; rw [if_neg h1]; try rfl), rfl, (by unfold mX12_movedTo; rw [if_neg h1]; try rfl)⟩
theorem hSX12_moveAll : yX12_moveAll.cls ≠ "java/lang/invoke/MethodHandle" ∧ yX12_moveAll.cls ≠ "java/lang/invoke/VarHandle" ∧ (parseMethodDescriptor yX12_moveAll.desc).map (fun d => d.parameters.length) = some 0 := by decide +kernel
theorem hVX12_moveAll : yX12_moveAll.cls = RX12 ∧ yX12_moveAll.cls ≠ "java/lang/invoke/MethodHandle" ∧ yX12_moveAll.cls ≠ "java/lang/invoke/VarHandle" ∧ (parseMethodDescriptor yX12_moveAll.desc).map (fun d => d.parameters.length) = some 0 := by decide +kernel
theorem vX12_moveAll_12 : ∀ w ∈ u_ws RX12 TX12 16, w ∈ wsX12_moveAll := by decide +kernel
theorem kX12_moveAll_64 : Cond.fieldLink RX12 64 (TX12 11).1 (TX12 11).2.1 (TX12 11).2.2.1 ∈ wsX12_moveAll := by decide +kernel
theorem kX12_moveAll_30 : Cond.fieldLink RX12 30 (TX12 12).1 (TX12 12).2.1 (TX12 12).2.2.1 ∈ wsX12_moveAll := by decide +kernel
theorem kX12_moveAll_9 : Cond.fieldLink RX12 9 (TX12 1).1 (TX12 1).2.1 (TX12 1).2.2.1 ∈ wsX12_moveAll := by decide +kernel
noncomputable def bX12_moveAll_21 (μ : rj_M) (j21 : Nat) (s21 : Int32 × rj_M) : (Int32 × rj_M) := (if (s21.2.1 435 (nI j21).toNatClampNeg) = 4 then (if (fX12_in (mX12_goes s21.2 (nI j21)) ((mX12_goes s21.2 (nI j21)).1 435 (nI j21).toNatClampNeg) 0 3) = 0 then (s21.1, (mX12_goes s21.2 (nI j21))) else (s21.1 + 1, (rj_pi (mX12_goes s21.2 (nI j21)) 396 ((23 + (6 * (nI j21))) + 1).toNatClampNeg ((mX12_goes s21.2 (nI j21)).1 435 (nI j21).toNatClampNeg)))) else (if (fX12_in s21.2 (s21.2.1 435 (nI j21).toNatClampNeg) 0 3) = 0 then (s21.1, s21.2) else (s21.1 + 1, (rj_pi s21.2 396 ((23 + (6 * (nI j21))) + 1).toNatClampNeg (s21.2.1 435 (nI j21).toNatClampNeg)))))
set_option maxHeartbeats 4000000 in
set_option maxRecDepth 100000 in
theorem lX12_moveAll_21 {g : rj_G} {ω : rj_W} (hω : rj_ok ω) (μ : rj_M)     (h1 : ((fX12_lacks μ (μ.1 395 11)) = 0)) {F : rj_F} : ∀ (r j : Nat) (s : Int32 × rj_M), j + r = 16 → (rj_R g RX12 cX12_moveAll 3 (some .int) wsX12_moveAll [] (rj_rm 2 0) F 0 ω ((rj_fo (bX12_moveAll_21 μ) r j s).2) [(0, .ref (ω.2.2 395)), (1, .int ((rj_fo (bX12_moveAll_21 μ) r j s).1)), (2, .int (nI 16))] 88 []) → rj_R g RX12 cX12_moveAll 3 (some .int) wsX12_moveAll [] (rj_rm 2 0) F 0 ω s.2 [(0, .ref (ω.2.2 395)), (1, .int s.1), (2, .int (nI j))] 21 [] := by
  intro r
  induction r with
  | zero =>
    intro j s hj K
    have e0 : j = 16 := by omega
    have hge : 16 ≤ nI j := by
      rw [e0]
      exact Int32.le_refl _
    refine rj_iload_n 2 dX12_moveAll_21 rfl rfl ?_
    refine rj_bipush (v := 16) dX12_moveAll_22 rfl (by decide) ?_
    refine rj_icmp_ge dX12_moveAll_24 rfl rfl (fun h6 => ?_) (fun h6 => ?_)
    · have e1 : nI j = nI 16 := by rw [e0]
      rw [e1]
      exact K
    · exact absurd hge h6
  | succ r ih =>
    intro j21 s21 hj K
    have hl21 : j21 < 16 := by omega
    have hg21 : ¬ 16 ≤ nI j21 := nI_ge hl21 (rj_bl rfl)
    refine rj_iload_n 2 dX12_moveAll_21 rfl rfl ?_
    refine rj_bipush (v := 16) dX12_moveAll_22 rfl (by decide) ?_
    refine rj_icmp_ge dX12_moveAll_24 rfl rfl (fun h2 => ?_) (fun h2 => ?_)
    · exact absurd h2 hg21
    · refine rj_aload_n 0 dX12_moveAll_27 rfl rfl ?_
      refine rj_getR (C0 := RX12) (T := TX12) (N := 16) (j := 12) (r := 435) dX12_moveAll_28 rfl vX12_moveAll_12 rfl (rj_lt hω (k := 395) rfl) (rj_sh hω ly_395) (by decide) kX12_moveAll_30 rfl ?_
      refine rj_iload_n 2 dX12_moveAll_31 rfl rfl ?_
      refine rj_iald dX12_moveAll_32 rfl (rj_lt hω (k := 435) rfl) (rj_sh hω ly_435) (vp_in_nI hl21 (rj_bl rfl)) ?_
      refine rj_iconst (v := 4) dX12_moveAll_33 rfl (by decide) ?_
      refine rj_icmp_ne dX12_moveAll_34 rfl rfl (fun h3 => ?_) (fun h3 => ?_)
      · skip
        refine rj_aload_n 0 dX12_moveAll_42 rfl rfl ?_
        refine rj_getR (C0 := RX12) (T := TX12) (N := 16) (j := 12) (r := 435) dX12_moveAll_43 rfl vX12_moveAll_12 rfl (rj_lt hω (k := 395) rfl) (rj_sh hω ly_395) (by decide) kX12_moveAll_30 rfl ?_
        refine rj_iload_n 2 dX12_moveAll_46 rfl rfl ?_
        refine rj_iald dX12_moveAll_47 rfl (rj_lt hω (k := 435) rfl) (rj_sh hω ly_435) (vp_in_nI hl21 (rj_bl rfl)) ?_
        refine rj_iconst (v := 0) dX12_moveAll_48 rfl (by decide) ?_
        refine rj_iconst (v := 3) dX12_moveAll_49 rfl (by decide) ?_
        refine rj_cS (rest := []) (sX12_in (g := g) (ω := ω) hω s21.2 (s21.2.1 435 (nI j21).toNatClampNeg) 0 3   ) gX12_moveAll_X12_in rfl hSX12_in ⟨Nat.le_of_ble_eq_true rfl, Nat.le_of_ble_eq_true rfl⟩ dX12_moveAll_50 rfl rfl rfl (Nat.le_of_ble_eq_true rfl) rfl (Nat.le_of_ble_eq_true rfl) rfl ?_
        refine rj_if_ne dX12_moveAll_53 rfl rfl (fun h4 => ?_) (fun h4 => ?_)
        · skip
          refine rj_aload_n 0 dX12_moveAll_59 rfl rfl ?_
          refine rj_getR (C0 := RX12) (T := TX12) (N := 16) (j := 1) (r := 396) dX12_moveAll_60 rfl vX12_moveAll_12 rfl (rj_lt hω (k := 395) rfl) (rj_sh hω ly_395) (by decide) kX12_moveAll_9 rfl ?_
          refine rj_bipush (v := 23) dX12_moveAll_63 rfl (by decide) ?_
          refine rj_bipush (v := 6) dX12_moveAll_65 rfl (by decide) ?_
          refine rj_iload_n 2 dX12_moveAll_67 rfl rfl ?_
          refine rj_imul dX12_moveAll_68 rfl ?_
          refine rj_iadd dX12_moveAll_69 rfl ?_
          refine rj_iconst (v := 1) dX12_moveAll_70 rfl (by decide) ?_
          refine rj_iadd dX12_moveAll_71 rfl ?_
          refine rj_aload_n 0 dX12_moveAll_72 rfl rfl ?_
          refine rj_getR (C0 := RX12) (T := TX12) (N := 16) (j := 12) (r := 435) dX12_moveAll_73 rfl vX12_moveAll_12 rfl (rj_lt hω (k := 395) rfl) (rj_sh hω ly_395) (by decide) kX12_moveAll_30 rfl ?_
          refine rj_iload_n 2 dX12_moveAll_76 rfl rfl ?_
          refine rj_iald dX12_moveAll_77 rfl (rj_lt hω (k := 435) rfl) (rj_sh hω ly_435) (vp_in_nI hl21 (rj_bl rfl)) ?_
          refine rj_iast dX12_moveAll_78 rfl (rj_lt hω (k := 396) rfl) (rj_sh hω ly_396) (rj_vle (rj_vadd (N := 115) (rj_vadd (N := 114) (vp_in_nI (n := 23) (N := 24) (rj_bl rfl) (rj_bl rfl)) (rj_vmul (k := 6) (N := 91) (vp_in_nI (N := 16) hl21 (rj_bl rfl)) rfl rfl) rfl rfl) (vp_in_nI (n := 1) (N := 2) (rj_bl rfl) (rj_bl rfl)) rfl rfl) rfl) ?_
          refine rj_iinc (v := s21.1 + 1) (l' := [(1, .int (s21.1 + 1)), (0, .ref (ω.2.2 395)), (2, .int (nI j21))]) 1 dX12_moveAll_79 rfl rfl rfl (rj_bl rfl) rfl ?_
          refine rj_iinc (v := nI (j21 + 1)) (l' := [(2, .int (nI (j21 + 1))), (1, .int (s21.1 + 1)), (0, .ref (ω.2.2 395))]) 2 dX12_moveAll_82 rfl rfl (nI_succ j21).symm (rj_bl rfl) rfl ?_
          refine rj_goto dX12_moveAll_85 rfl ?_
          have e : bX12_moveAll_21 μ j21 s21 = (s21.1 + 1, (rj_pi s21.2 396 ((23 + (6 * (nI j21))) + 1).toNatClampNeg (s21.2.1 435 (nI j21).toNatClampNeg))) := by unfold bX12_moveAll_21; rw [if_neg h3]; rw [if_neg h4]; try rfl
          exact rj_sub (l' := [(0, .ref (ω.2.2 395)), (1, .int (s21.1 + 1)), (2, .int (nI (j21 + 1)))]) [2, 1, 0] rfl (ih (j21 + 1) (s21.1 + 1, (rj_pi s21.2 396 ((23 + (6 * (nI j21))) + 1).toNatClampNeg (s21.2.1 435 (nI j21).toNatClampNeg))) (by omega) (by rw [rj_fo_s (r := r), e] at K; exact K))
        · skip
          refine rj_goto dX12_moveAll_56 rfl ?_
          refine rj_iinc (v := nI (j21 + 1)) (l' := [(2, .int (nI (j21 + 1))), (0, .ref (ω.2.2 395)), (1, .int s21.1)]) 2 dX12_moveAll_82 rfl rfl (nI_succ j21).symm (rj_bl rfl) rfl ?_
          refine rj_goto dX12_moveAll_85 rfl ?_
          have e : bX12_moveAll_21 μ j21 s21 = (s21.1, s21.2) := by unfold bX12_moveAll_21; rw [if_neg h3]; rw [if_pos h4]; try rfl
          exact rj_sub (l' := [(0, .ref (ω.2.2 395)), (1, .int s21.1), (2, .int (nI (j21 + 1)))]) [1, 2, 0] rfl (ih (j21 + 1) (s21.1, s21.2) (by omega) (by rw [rj_fo_s (r := r), e] at K; exact K))
      · skip
        refine rj_aload_n 0 dX12_moveAll_37 rfl rfl ?_
        refine rj_iload_n 2 dX12_moveAll_38 rfl rfl ?_
        refine rj_cV (rest := []) (sX12_goes (g := g) (ω := ω) hω s21.2 (nI j21)  (vp_in_nI hl21 (rj_bl rfl)) ) gX12_moveAll_X12_goes (rj_lt hω (k := 395) rfl) (rj_sh hω ly_395) rfl rfl hVX12_goes ⟨Nat.le_of_ble_eq_true rfl, Nat.le_of_ble_eq_true rfl⟩ dX12_moveAll_39 rfl rfl rfl (Nat.le_of_ble_eq_true rfl) rfl (Nat.le_of_ble_eq_true rfl) rfl ?_
        refine rj_aload_n 0 dX12_moveAll_42 rfl rfl ?_
        refine rj_getR (C0 := RX12) (T := TX12) (N := 16) (j := 12) (r := 435) dX12_moveAll_43 rfl vX12_moveAll_12 rfl (rj_lt hω (k := 395) rfl) (rj_sh hω ly_395) (by decide) kX12_moveAll_30 rfl ?_
        refine rj_iload_n 2 dX12_moveAll_46 rfl rfl ?_
        refine rj_iald dX12_moveAll_47 rfl (rj_lt hω (k := 435) rfl) (rj_sh hω ly_435) (vp_in_nI hl21 (rj_bl rfl)) ?_
        refine rj_iconst (v := 0) dX12_moveAll_48 rfl (by decide) ?_
        refine rj_iconst (v := 3) dX12_moveAll_49 rfl (by decide) ?_
        refine rj_cS (rest := []) (sX12_in (g := g) (ω := ω) hω (mX12_goes s21.2 (nI j21)) ((mX12_goes s21.2 (nI j21)).1 435 (nI j21).toNatClampNeg) 0 3   ) gX12_moveAll_X12_in rfl hSX12_in ⟨Nat.le_of_ble_eq_true rfl, Nat.le_of_ble_eq_true rfl⟩ dX12_moveAll_50 rfl rfl rfl (Nat.le_of_ble_eq_true rfl) rfl (Nat.le_of_ble_eq_true rfl) rfl ?_
        refine rj_if_ne dX12_moveAll_53 rfl rfl (fun h5 => ?_) (fun h5 => ?_)
        · skip
          refine rj_aload_n 0 dX12_moveAll_59 rfl rfl ?_
          refine rj_getR (C0 := RX12) (T := TX12) (N := 16) (j := 1) (r := 396) dX12_moveAll_60 rfl vX12_moveAll_12 rfl (rj_lt hω (k := 395) rfl) (rj_sh hω ly_395) (by decide) kX12_moveAll_9 rfl ?_
          refine rj_bipush (v := 23) dX12_moveAll_63 rfl (by decide) ?_
          refine rj_bipush (v := 6) dX12_moveAll_65 rfl (by decide) ?_
          refine rj_iload_n 2 dX12_moveAll_67 rfl rfl ?_
          refine rj_imul dX12_moveAll_68 rfl ?_
          refine rj_iadd dX12_moveAll_69 rfl ?_
          refine rj_iconst (v := 1) dX12_moveAll_70 rfl (by decide) ?_
          refine rj_iadd dX12_moveAll_71 rfl ?_
          refine rj_aload_n 0 dX12_moveAll_72 rfl rfl ?_
          refine rj_getR (C0 := RX12) (T := TX12) (N := 16) (j := 12) (r := 435) dX12_moveAll_73 rfl vX12_moveAll_12 rfl (rj_lt hω (k := 395) rfl) (rj_sh hω ly_395) (by decide) kX12_moveAll_30 rfl ?_
          refine rj_iload_n 2 dX12_moveAll_76 rfl rfl ?_
          refine rj_iald dX12_moveAll_77 rfl (rj_lt hω (k := 435) rfl) (rj_sh hω ly_435) (vp_in_nI hl21 (rj_bl rfl)) ?_
          refine rj_iast dX12_moveAll_78 rfl (rj_lt hω (k := 396) rfl) (rj_sh hω ly_396) (rj_vle (rj_vadd (N := 115) (rj_vadd (N := 114) (vp_in_nI (n := 23) (N := 24) (rj_bl rfl) (rj_bl rfl)) (rj_vmul (k := 6) (N := 91) (vp_in_nI (N := 16) hl21 (rj_bl rfl)) rfl rfl) rfl rfl) (vp_in_nI (n := 1) (N := 2) (rj_bl rfl) (rj_bl rfl)) rfl rfl) rfl) ?_
          refine rj_iinc (v := s21.1 + 1) (l' := [(1, .int (s21.1 + 1)), (0, .ref (ω.2.2 395)), (2, .int (nI j21))]) 1 dX12_moveAll_79 rfl rfl rfl (rj_bl rfl) rfl ?_
          refine rj_iinc (v := nI (j21 + 1)) (l' := [(2, .int (nI (j21 + 1))), (1, .int (s21.1 + 1)), (0, .ref (ω.2.2 395))]) 2 dX12_moveAll_82 rfl rfl (nI_succ j21).symm (rj_bl rfl) rfl ?_
          refine rj_goto dX12_moveAll_85 rfl ?_
          have e : bX12_moveAll_21 μ j21 s21 = (s21.1 + 1, (rj_pi (mX12_goes s21.2 (nI j21)) 396 ((23 + (6 * (nI j21))) + 1).toNatClampNeg ((mX12_goes s21.2 (nI j21)).1 435 (nI j21).toNatClampNeg))) := by unfold bX12_moveAll_21; rw [if_pos h3]; rw [if_neg h5]; try rfl
          exact rj_sub (l' := [(0, .ref (ω.2.2 395)), (1, .int (s21.1 + 1)), (2, .int (nI (j21 + 1)))]) [2, 1, 0] rfl (ih (j21 + 1) (s21.1 + 1, (rj_pi (mX12_goes s21.2 (nI j21)) 396 ((23 + (6 * (nI j21))) + 1).toNatClampNeg ((mX12_goes s21.2 (nI j21)).1 435 (nI j21).toNatClampNeg))) (by omega) (by rw [rj_fo_s (r := r), e] at K; exact K))
        · skip
          refine rj_goto dX12_moveAll_56 rfl ?_
          refine rj_iinc (v := nI (j21 + 1)) (l' := [(2, .int (nI (j21 + 1))), (0, .ref (ω.2.2 395)), (1, .int s21.1)]) 2 dX12_moveAll_82 rfl rfl (nI_succ j21).symm (rj_bl rfl) rfl ?_
          refine rj_goto dX12_moveAll_85 rfl ?_
          have e : bX12_moveAll_21 μ j21 s21 = (s21.1, (mX12_goes s21.2 (nI j21))) := by unfold bX12_moveAll_21; rw [if_pos h3]; rw [if_pos h5]; try rfl
          revert e
          generalize (mX12_goes s21.2 (nI j21)) = gA0
          intro e
          exact rj_sub (l' := [(0, .ref (ω.2.2 395)), (1, .int s21.1), (2, .int (nI (j21 + 1)))]) [1, 2, 0] rfl (ih (j21 + 1) (s21.1, gA0) (by omega) (by rw [rj_fo_s (r := r), e] at K; exact K))
set_option maxHeartbeats 4000000 in
theorem lX12_moveAll_21u {g : rj_G} {ω : rj_W} (hω : rj_ok ω) (μ : rj_M)     (h1 : ((fX12_lacks μ (μ.1 395 11)) = 0)) {F : rj_F} : ∀ (r j : Nat) (c0 : Int32) (c1 : rj_M), j + r = 16 → (rj_R g RX12 cX12_moveAll 3 (some .int) wsX12_moveAll [] (rj_rm 2 0) F 0 ω ((rj_fo (bX12_moveAll_21 μ) r j (c0, c1)).2) [(0, .ref (ω.2.2 395)), (1, .int ((rj_fo (bX12_moveAll_21 μ) r j (c0, c1)).1)), (2, .int (nI 16))] 88 []) → rj_R g RX12 cX12_moveAll 3 (some .int) wsX12_moveAll [] (rj_rm 2 0) F 0 ω c1 [(0, .ref (ω.2.2 395)), (1, .int c0), (2, .int (nI j))] 21 [] := fun r j c0 c1 => lX12_moveAll_21 hω μ     h1 r j (c0, c1)
noncomputable def fX12_moveAll (μ : rj_M) : Int32 := (if (fX12_lacks μ (μ.1 395 11)) = 0 then (rj_fo (bX12_moveAll_21 μ) 16 0 (0, (mX12_keeps (mX12_lacks μ (μ.1 395 11))))).1 else 0)
noncomputable def mX12_moveAll (μ : rj_M) : rj_M := (if (fX12_lacks μ (μ.1 395 11)) = 0 then (rj_fo (bX12_moveAll_21 μ) 16 0 (0, (mX12_keeps (mX12_lacks μ (μ.1 395 11))))).2 else (mX12_lacks μ (μ.1 395 11)))
noncomputable def qX12_moveAll (μ : rj_M) : Prop := ((((fX12_lacks μ (μ.1 395 11)) = 0) → (qX12_keeps (mX12_lacks μ (μ.1 395 11)) ∧ True)) ∧ ((¬ ((fX12_lacks μ (μ.1 395 11)) = 0)) → True))
set_option maxHeartbeats 40000000 in
set_option maxRecDepth 100000 in
theorem sX12_moveAll {g : rj_G} {ω : rj_W} (hω : rj_ok ω) (μ : rj_M)   (hq : qX12_moveAll μ) : rj_Sp g yX12_moveAll wsX12_moveAll (rj_rm 2 0) [.ref (ω.2.2 395)] ω μ (rj_D (.inl (some (.int (fX12_moveAll μ)))) ω (mX12_moveAll μ)) := by
  have hqa := hq
  unfold qX12_moveAll at hqa
  refine rj_of' (cc := cX12_moveAll) (nL := 3) (ret := (some .int)) (own := RX12) (l0 := [(0, .ref (ω.2.2 395))]) rfl (by decide +kernel) rfl (Nat.le_of_ble_eq_true rfl) rfl ?_
  refine rj_aload_n 0 dX12_moveAll_0 rfl rfl ?_
  refine rj_aload_n 0 dX12_moveAll_1 rfl rfl ?_
  refine rj_getI (C0 := RX12) (T := TX12) (N := 16) (j := 11) dX12_moveAll_2 rfl vX12_moveAll_12 rfl (rj_lt hω (k := 395) rfl) (rj_sh hω ly_395) (by decide) kX12_moveAll_64 rfl ?_
  refine rj_cV (rest := []) (sX12_lacks (g := g) (ω := ω) hω μ (μ.1 395 11)   ) gX12_moveAll_X12_lacks (rj_lt hω (k := 395) rfl) (rj_sh hω ly_395) rfl rfl hVX12_lacks ⟨Nat.le_of_ble_eq_true rfl, Nat.le_of_ble_eq_true rfl⟩ dX12_moveAll_5 rfl rfl rfl (Nat.le_of_ble_eq_true rfl) rfl (Nat.le_of_ble_eq_true rfl) rfl ?_
  refine rj_if_eq dX12_moveAll_8 rfl rfl (fun h1 => ?_) (fun h1 => ?_)
  · have hq1 := (And.left hqa) h1
    refine rj_aload_n 0 dX12_moveAll_13 rfl rfl ?_
    refine rj_cV (rest := []) (sX12_keeps (g := g) (ω := ω) hω (mX12_lacks μ (μ.1 395 11))   (And.left hq1)) gX12_moveAll_X12_keeps (rj_lt hω (k := 395) rfl) (rj_sh hω ly_395) rfl rfl hVX12_keeps ⟨Nat.le_of_ble_eq_true rfl, Nat.le_of_ble_eq_true rfl⟩ dX12_moveAll_14 rfl rfl rfl (Nat.le_of_ble_eq_true rfl) rfl (Nat.le_of_ble_eq_true rfl) rfl ?_
    refine rj_iconst (v := 0) dX12_moveAll_17 rfl (by decide) ?_
    refine rj_istore_n (l' := [(1, .int 0), (0, .ref (ω.2.2 395))]) dX12_moveAll_18 rfl (rj_bl rfl) rfl ?_
    refine rj_iconst (v := 0) dX12_moveAll_19 rfl (by decide) ?_
    refine rj_istore_n (l' := [(2, .int 0), (1, .int 0), (0, .ref (ω.2.2 395))]) dX12_moveAll_20 rfl (rj_bl rfl) rfl ?_
    refine rj_sub (l' := [(0, .ref (ω.2.2 395)), (1, .int 0), (2, .int (nI 0))]) [2, 1, 0] rfl ?_
    refine lX12_moveAll_21u hω μ     h1 16 0 0 (mX12_keeps (mX12_lacks μ (μ.1 395 11))) rfl ?_
    refine rj_iload_n 1 dX12_moveAll_88 rfl rfl ?_
    exact rj_iret dX12_moveAll_89 rfl (Nat.le_of_ble_eq_true rfl) (Nat.le_of_ble_eq_true rfl) ⟨(by unfold fX12_moveAll; rw [if_pos h1]; try rfl), rfl, (by unfold mX12_moveAll; rw [if_pos h1]; try rfl)⟩
  · skip
    refine rj_iconst (v := 0) dX12_moveAll_11 rfl (by decide) ?_
    exact rj_iret dX12_moveAll_12 rfl (Nat.le_of_ble_eq_true rfl) (Nat.le_of_ble_eq_true rfl) ⟨(by unfold fX12_moveAll; rw [if_neg h1]; try rfl), rfl, (by unfold mX12_moveAll; rw [if_neg h1]; try rfl)⟩
