theorem hSX12_find : yX12_find.cls ≠ "java/lang/invoke/MethodHandle" ∧ yX12_find.cls ≠ "java/lang/invoke/VarHandle" ∧ (parseMethodDescriptor yX12_find.desc).map (fun d => d.parameters.length) = some 1 := by decide +kernel
theorem hVX12_find : yX12_find.cls = RX12 ∧ yX12_find.cls ≠ "java/lang/invoke/MethodHandle" ∧ yX12_find.cls ≠ "java/lang/invoke/VarHandle" ∧ (parseMethodDescriptor yX12_find.desc).map (fun d => d.parameters.length) = some 1 := by decide +kernel
theorem vX12_find_12 : ∀ w ∈ u_ws RX12 TX12 16, w ∈ wsX12_find := by decide +kernel
theorem kX12_find_9 : Cond.fieldLink RX12 9 (TX12 1).1 (TX12 1).2.1 (TX12 1).2.2.1 ∈ wsX12_find := by decide +kernel
noncomputable def bX12_find_28 (μ : rj_M) (a0 : Int32) (j28 : Nat) (s28 : Unit) : Unit ⊕ (Nat × Unit) := (if ((mX12_lacksT μ).1 396 (525 + (nI j28)).toNatClampNeg) = (-1) then .inl () else .inr (j28, ()))
set_option maxHeartbeats 4000000 in
set_option maxRecDepth 100000 in
theorem lX12_find_28 {g : rj_G} {ω : rj_W} (hω : rj_ok ω) (μ : rj_M) (a0 : Int32)     (h1 : (a0 = (-1))) {F : rj_F} : ∀ (r j : Nat) (s : Unit), j + r = 100 → (rj_R g RX12 cX12_find 3 (some .int) wsX12_find [] (rj_rm 2 0) F 0 ω (mX12_lacksT μ) [(0, .ref (ω.2.2 395)), (1, .int a0), (2, .int (nI (rj_br (bX12_find_28 μ a0) r j s).1))] 73 []) → rj_R g RX12 cX12_find 3 (some .int) wsX12_find [] (rj_rm 2 0) F 0 ω (mX12_lacksT μ) [(0, .ref (ω.2.2 395)), (1, .int a0), (2, .int (nI j))] 28 [] := by
  intro r
  induction r with
  | zero =>
    intro j s hj K
    have e0 : j = 100 := by omega
    have hge : 100 ≤ nI j := by
      rw [e0]
      exact Int32.le_refl _
    refine rj_iload_n 2 dX12_find_28 rfl rfl ?_
    refine rj_bipush (v := 100) dX12_find_29 rfl (by decide) ?_
    refine rj_icmp_ge dX12_find_31 rfl rfl (fun h6 => ?_) (fun h6 => ?_)
    · rw [rj_br_0] at K
      exact K
    · exact absurd hge h6
  | succ r ih =>
    intro j28 s28 hj K
    have hl28 : j28 < 100 := by omega
    have hg28 : ¬ 100 ≤ nI j28 := nI_ge hl28 (rj_bl rfl)
    refine rj_iload_n 2 dX12_find_28 rfl rfl ?_
    refine rj_bipush (v := 100) dX12_find_29 rfl (by decide) ?_
    refine rj_icmp_ge dX12_find_31 rfl rfl (fun h3 => ?_) (fun h3 => ?_)
    · exact absurd h3 hg28
    · refine rj_aload_n 0 dX12_find_34 rfl rfl ?_
      refine rj_getR (C0 := RX12) (T := TX12) (N := 16) (j := 1) (r := 396) dX12_find_35 rfl vX12_find_12 rfl (rj_lt hω (k := 395) rfl) (rj_sh hω ly_395) (by decide) kX12_find_9 rfl ?_
      refine rj_sipush (v := 525) dX12_find_38 rfl (by decide) ?_
      refine rj_iload_n 2 dX12_find_41 rfl rfl ?_
      refine rj_iadd dX12_find_42 rfl ?_
      refine rj_iald dX12_find_43 rfl (rj_lt hω (k := 396) rfl) (rj_sh hω ly_396) (rj_vle (rj_vadd (N := 625) (vp_in_nI (n := 525) (N := 526) (rj_bl rfl) (rj_bl rfl)) (vp_in_nI (N := 100) hl28 (rj_bl rfl)) rfl rfl) rfl) ?_
      refine rj_iconst (v := (-1)) dX12_find_44 rfl (by decide) ?_
      refine rj_icmp_eq dX12_find_45 rfl rfl (fun h4 => ?_) (fun h4 => ?_)
      · skip
        refine rj_iinc (v := nI (j28 + 1)) (l' := [(2, .int (nI (j28 + 1))), (0, .ref (ω.2.2 395)), (1, .int a0)]) 2 dX12_find_67 rfl rfl (nI_succ j28).symm (rj_bl rfl) rfl ?_
        refine rj_goto dX12_find_70 rfl ?_
        have e : bX12_find_28 μ a0 j28 s28 = .inl () := by unfold bX12_find_28; rw [if_pos h4]; try rfl
        exact rj_sub (l' := [(0, .ref (ω.2.2 395)), (1, .int a0), (2, .int (nI (j28 + 1)))]) [1, 2, 0] rfl (ih (j28 + 1) () (by omega) (by rw [rj_br_l e] at K; exact K))
      · skip
        refine rj_iload_n 1 dX12_find_48 rfl rfl ?_
        refine rj_iconst (v := (-1)) dX12_find_49 rfl (by decide) ?_
        refine rj_icmp_eq dX12_find_50 rfl rfl (fun h5 => ?_) (fun h5 => ?_)
        · have e : bX12_find_28 μ a0 j28 s28 = .inr (j28, ()) := by unfold bX12_find_28; rw [if_neg h4]; try rfl
          exact rj_sub (l' := [(0, .ref (ω.2.2 395)), (1, .int a0), (2, .int (nI j28))]) [0, 1, 2] rfl (by rw [rj_br_r e] at K; exact K)
        · exact absurd h1 h5
noncomputable def bX12_find_28b (μ : rj_M) (a0 : Int32) (j28 : Nat) (s28 : Unit) : Unit ⊕ (Nat × Unit) := (if ((mX12_lacksT μ).1 396 (525 + (nI j28)).toNatClampNeg) = (-1) then .inl () else (if ((mX12_lacksT μ).1 396 (525 + (nI j28)).toNatClampNeg) = a0 then .inr (j28, ()) else .inl ()))
set_option maxHeartbeats 4000000 in
set_option maxRecDepth 100000 in
theorem lX12_find_28b {g : rj_G} {ω : rj_W} (hω : rj_ok ω) (μ : rj_M) (a0 : Int32)     (h1 : ¬ (a0 = (-1))) (h10 : ¬ ((fX12_isStage μ a0) = 0)) {F : rj_F} : ∀ (r j : Nat) (s : Unit), j + r = 100 → (rj_R g RX12 cX12_find 3 (some .int) wsX12_find [] (rj_rm 2 0) F 0 ω (mX12_lacksT μ) [(0, .ref (ω.2.2 395)), (1, .int a0), (2, .int (nI (rj_br (bX12_find_28b μ a0) r j s).1))] 73 []) → rj_R g RX12 cX12_find 3 (some .int) wsX12_find [] (rj_rm 2 0) F 0 ω (mX12_lacksT μ) [(0, .ref (ω.2.2 395)), (1, .int a0), (2, .int (nI j))] 28 [] := by
  intro r
  induction r with
  | zero =>
    intro j s hj K
    have e0 : j = 100 := by omega
    have hge : 100 ≤ nI j := by
      rw [e0]
      exact Int32.le_refl _
    refine rj_iload_n 2 dX12_find_28 rfl rfl ?_
    refine rj_bipush (v := 100) dX12_find_29 rfl (by decide) ?_
    refine rj_icmp_ge dX12_find_31 rfl rfl (fun h17 => ?_) (fun h17 => ?_)
    · rw [rj_br_0] at K
      exact K
    · exact absurd hge h17
  | succ r ih =>
    intro j28 s28 hj K
    have hl28 : j28 < 100 := by omega
    have hg28 : ¬ 100 ≤ nI j28 := nI_ge hl28 (rj_bl rfl)
    refine rj_iload_n 2 dX12_find_28 rfl rfl ?_
    refine rj_bipush (v := 100) dX12_find_29 rfl (by decide) ?_
    refine rj_icmp_ge dX12_find_31 rfl rfl (fun h13 => ?_) (fun h13 => ?_)
    · exact absurd h13 hg28
    · refine rj_aload_n 0 dX12_find_34 rfl rfl ?_
      refine rj_getR (C0 := RX12) (T := TX12) (N := 16) (j := 1) (r := 396) dX12_find_35 rfl vX12_find_12 rfl (rj_lt hω (k := 395) rfl) (rj_sh hω ly_395) (by decide) kX12_find_9 rfl ?_
      refine rj_sipush (v := 525) dX12_find_38 rfl (by decide) ?_
      refine rj_iload_n 2 dX12_find_41 rfl rfl ?_
      refine rj_iadd dX12_find_42 rfl ?_
      refine rj_iald dX12_find_43 rfl (rj_lt hω (k := 396) rfl) (rj_sh hω ly_396) (rj_vle (rj_vadd (N := 625) (vp_in_nI (n := 525) (N := 526) (rj_bl rfl) (rj_bl rfl)) (vp_in_nI (N := 100) hl28 (rj_bl rfl)) rfl rfl) rfl) ?_
      refine rj_iconst (v := (-1)) dX12_find_44 rfl (by decide) ?_
      refine rj_icmp_eq dX12_find_45 rfl rfl (fun h14 => ?_) (fun h14 => ?_)
      · skip
        refine rj_iinc (v := nI (j28 + 1)) (l' := [(2, .int (nI (j28 + 1))), (0, .ref (ω.2.2 395)), (1, .int a0)]) 2 dX12_find_67 rfl rfl (nI_succ j28).symm (rj_bl rfl) rfl ?_
        refine rj_goto dX12_find_70 rfl ?_
        have e : bX12_find_28b μ a0 j28 s28 = .inl () := by unfold bX12_find_28b; rw [if_pos h14]; try rfl
        exact rj_sub (l' := [(0, .ref (ω.2.2 395)), (1, .int a0), (2, .int (nI (j28 + 1)))]) [1, 2, 0] rfl (ih (j28 + 1) () (by omega) (by rw [rj_br_l e] at K; exact K))
      · skip
        refine rj_iload_n 1 dX12_find_48 rfl rfl ?_
        refine rj_iconst (v := (-1)) dX12_find_49 rfl (by decide) ?_
        refine rj_icmp_eq dX12_find_50 rfl rfl (fun h15 => ?_) (fun h15 => ?_)
        · exact absurd h15 h1
        · refine rj_aload_n 0 dX12_find_53 rfl rfl ?_
          refine rj_getR (C0 := RX12) (T := TX12) (N := 16) (j := 1) (r := 396) dX12_find_54 rfl vX12_find_12 rfl (rj_lt hω (k := 395) rfl) (rj_sh hω ly_395) (by decide) kX12_find_9 rfl ?_
          refine rj_sipush (v := 525) dX12_find_57 rfl (by decide) ?_
          refine rj_iload_n 2 dX12_find_60 rfl rfl ?_
          refine rj_iadd dX12_find_61 rfl ?_
          refine rj_iald dX12_find_62 rfl (rj_lt hω (k := 396) rfl) (rj_sh hω ly_396) (rj_vle (rj_vadd (N := 625) (vp_in_nI (n := 525) (N := 526) (rj_bl rfl) (rj_bl rfl)) (vp_in_nI (N := 100) hl28 (rj_bl rfl)) rfl rfl) rfl) ?_
          refine rj_iload_n 1 dX12_find_63 rfl rfl ?_
          refine rj_icmp_eq dX12_find_64 rfl rfl (fun h16 => ?_) (fun h16 => ?_)
          · skip
            have e : bX12_find_28b μ a0 j28 s28 = .inr (j28, ()) := by unfold bX12_find_28b; rw [if_neg h14]; rw [if_pos h16]; try rfl
            exact rj_sub (l' := [(0, .ref (ω.2.2 395)), (1, .int a0), (2, .int (nI j28))]) [0, 1, 2] rfl (by rw [rj_br_r e] at K; exact K)
          · skip
            refine rj_iinc (v := nI (j28 + 1)) (l' := [(2, .int (nI (j28 + 1))), (0, .ref (ω.2.2 395)), (1, .int a0)]) 2 dX12_find_67 rfl rfl (nI_succ j28).symm (rj_bl rfl) rfl ?_
            refine rj_goto dX12_find_70 rfl ?_
            have e : bX12_find_28b μ a0 j28 s28 = .inl () := by unfold bX12_find_28b; rw [if_neg h14]; rw [if_neg h16]; try rfl
            exact rj_sub (l' := [(0, .ref (ω.2.2 395)), (1, .int a0), (2, .int (nI (j28 + 1)))]) [1, 2, 0] rfl (ih (j28 + 1) () (by omega) (by rw [rj_br_l e] at K; exact K))
noncomputable def fX12_find (μ : rj_M) (a0 : Int32) : Int32 := (if a0 = (-1) then (if 100 ≤ nI (rj_br (bX12_find_28 μ a0) 100 0 ()).1 then 0 else nI (rj_br (bX12_find_28 μ a0) 100 0 ()).1) else (if (fX12_isStage μ a0) = 0 then 0 else (if 100 ≤ nI (rj_br (bX12_find_28b μ a0) 100 0 ()).1 then 0 else nI (rj_br (bX12_find_28b μ a0) 100 0 ()).1)))
noncomputable def mX12_find (μ : rj_M) (a0 : Int32) : rj_M := (if a0 = (-1) then (if 100 ≤ nI (rj_br (bX12_find_28 μ a0) 100 0 ()).1 then (mX12_noF (mX12_lacksT μ) 2) else (rj_pi (mX12_keeps (mX12_lacksT μ)) 396 (525 + (nI (rj_br (bX12_find_28 μ a0) 100 0 ()).1)).toNatClampNeg (-1))) else (if (fX12_isStage μ a0) = 0 then (mX12_lacksF μ) else (if 100 ≤ nI (rj_br (bX12_find_28b μ a0) 100 0 ()).1 then (mX12_noF (mX12_lacksT μ) 2) else (rj_pi (mX12_keeps (mX12_lacksT μ)) 396 (525 + (nI (rj_br (bX12_find_28b μ a0) 100 0 ()).1)).toNatClampNeg (-1)))))
noncomputable def qX12_find (μ : rj_M) (a0 : Int32) : Prop := (((a0 = (-1)) → (((100 ≤ nI (rj_br (bX12_find_28 μ a0) 100 0 ()).1) → True) ∧ ((¬ (100 ≤ nI (rj_br (bX12_find_28 μ a0) 100 0 ()).1)) → (qX12_keeps (mX12_lacksT μ) ∧ vp_in (525 + (nI (rj_br (bX12_find_28 μ a0) 100 0 ()).1)) 625 ∧ True)))) ∧ ((¬ (a0 = (-1))) → ((((fX12_isStage μ a0) = 0) → True) ∧ ((¬ ((fX12_isStage μ a0) = 0)) → (((100 ≤ nI (rj_br (bX12_find_28b μ a0) 100 0 ()).1) → True) ∧ ((¬ (100 ≤ nI (rj_br (bX12_find_28b μ a0) 100 0 ()).1)) → (qX12_keeps (mX12_lacksT μ) ∧ vp_in (525 + (nI (rj_br (bX12_find_28b μ a0) 100 0 ()).1)) 625 ∧ True)))))))
set_option maxHeartbeats 40000000 in
set_option maxRecDepth 100000 in
theorem sX12_find {g : rj_G} {ω : rj_W} (hω : rj_ok ω) (μ : rj_M) (a0 : Int32)   (hq : qX12_find μ a0) : rj_Sp g yX12_find wsX12_find (rj_rm 2 0) [.ref (ω.2.2 395), .int a0] ω μ (rj_D (.inl (some (.int (fX12_find μ a0)))) ω (mX12_find μ a0)) := by
  have hqa := hq
  unfold qX12_find at hqa
  refine rj_of' (cc := cX12_find) (nL := 3) (ret := (some .int)) (own := RX12) (l0 := [(0, .ref (ω.2.2 395)), (1, .int a0)]) rfl (by decide +kernel) rfl (Nat.le_of_ble_eq_true rfl) rfl ?_
  refine rj_aload_n 0 dX12_find_0 rfl rfl ?_
  refine rj_iload_n 1 dX12_find_1 rfl rfl ?_
  refine rj_iconst (v := (-1)) dX12_find_2 rfl (by decide) ?_
  refine rj_icmp_eq dX12_find_3 rfl rfl (fun h1 => ?_) (fun h1 => ?_)
  · have hq1 := (And.left hqa) h1
    refine rj_iconst (v := 1) dX12_find_13 rfl (by decide) ?_
    refine rj_goto dX12_find_14 rfl ?_
    refine rj_cV (rest := []) (sX12_lacksT (g := g) (ω := ω) hω μ   ) gX12_find_X12_lacks (rj_lt hω (k := 395) rfl) (rj_sh hω ly_395) rfl rfl hVX12_lacks ⟨Nat.le_of_ble_eq_true rfl, Nat.le_of_ble_eq_true rfl⟩ dX12_find_18 rfl rfl rfl (Nat.le_of_ble_eq_true rfl) rfl (Nat.le_of_ble_eq_true rfl) rfl ?_
    refine rj_if_eq dX12_find_21 rfl rfl (fun h2 => ?_) (fun h2 => ?_)
    · refine rj_iconst (v := 0) dX12_find_26 rfl (by decide) ?_
      refine rj_istore_n (l' := [(2, .int 0), (0, .ref (ω.2.2 395)), (1, .int a0)]) dX12_find_27 rfl (rj_bl rfl) rfl ?_
      refine rj_sub (l' := [(0, .ref (ω.2.2 395)), (1, .int a0), (2, .int (nI 0))]) [1, 2, 0] rfl ?_
      refine lX12_find_28 hω μ a0     h1 100 0 () rfl ?_
      refine rj_aload_n 0 dX12_find_73 rfl rfl ?_
      refine rj_iload_n 2 dX12_find_74 rfl rfl ?_
      refine rj_bipush (v := 100) dX12_find_75 rfl (by decide) ?_
      refine rj_icmp_ge dX12_find_77 rfl rfl (fun h7 => ?_) (fun h7 => ?_)
      · skip
        refine rj_iconst (v := 0) dX12_find_84 rfl (by decide) ?_
        refine rj_iconst (v := 2) dX12_find_85 rfl (by decide) ?_
        refine rj_cV (rest := []) (sX12_noF (g := g) (ω := ω) hω (mX12_lacksT μ) 2   ) gX12_find_X12_no (rj_lt hω (k := 395) rfl) (rj_sh hω ly_395) rfl rfl hVX12_no ⟨Nat.le_of_ble_eq_true rfl, Nat.le_of_ble_eq_true rfl⟩ dX12_find_86 rfl rfl rfl (Nat.le_of_ble_eq_true rfl) rfl (Nat.le_of_ble_eq_true rfl) rfl ?_
        refine rj_if_eq dX12_find_89 rfl rfl (fun h8 => ?_) (fun h8 => ?_)
        · exact absurd h8 (by decide)
        · refine rj_iconst (v := 0) dX12_find_92 rfl (by decide) ?_
          exact rj_iret dX12_find_93 rfl (Nat.le_of_ble_eq_true rfl) (Nat.le_of_ble_eq_true rfl) ⟨(by unfold fX12_find; rw [if_pos h1]; rw [if_pos h7]; try rfl), rfl, (by unfold mX12_find; rw [if_pos h1]; rw [if_pos h7]; try rfl)⟩
      · have hq5 := (And.right hq1) h7
        refine rj_iconst (v := 1) dX12_find_80 rfl (by decide) ?_
        refine rj_goto dX12_find_81 rfl ?_
        refine rj_iconst (v := 2) dX12_find_85 rfl (by decide) ?_
        refine rj_cV (rest := []) (sX12_noT (g := g) (ω := ω) hω (mX12_lacksT μ) 2   ) gX12_find_X12_no (rj_lt hω (k := 395) rfl) (rj_sh hω ly_395) rfl rfl hVX12_no ⟨Nat.le_of_ble_eq_true rfl, Nat.le_of_ble_eq_true rfl⟩ dX12_find_86 rfl rfl rfl (Nat.le_of_ble_eq_true rfl) rfl (Nat.le_of_ble_eq_true rfl) rfl ?_
        refine rj_if_eq dX12_find_89 rfl rfl (fun h9 => ?_) (fun h9 => ?_)
        · refine rj_aload_n 0 dX12_find_94 rfl rfl ?_
          refine rj_cV (rest := []) (sX12_keeps (g := g) (ω := ω) hω (mX12_lacksT μ)   (And.left hq5)) gX12_find_X12_keeps (rj_lt hω (k := 395) rfl) (rj_sh hω ly_395) rfl rfl hVX12_keeps ⟨Nat.le_of_ble_eq_true rfl, Nat.le_of_ble_eq_true rfl⟩ dX12_find_95 rfl rfl rfl (Nat.le_of_ble_eq_true rfl) rfl (Nat.le_of_ble_eq_true rfl) rfl ?_
          refine rj_aload_n 0 dX12_find_98 rfl rfl ?_
          refine rj_getR (C0 := RX12) (T := TX12) (N := 16) (j := 1) (r := 396) dX12_find_99 rfl vX12_find_12 rfl (rj_lt hω (k := 395) rfl) (rj_sh hω ly_395) (by decide) kX12_find_9 rfl ?_
          refine rj_sipush (v := 525) dX12_find_102 rfl (by decide) ?_
          refine rj_iload_n 2 dX12_find_105 rfl rfl ?_
          refine rj_iadd dX12_find_106 rfl ?_
          refine rj_iconst (v := (-1)) dX12_find_107 rfl (by decide) ?_
          refine rj_iast dX12_find_108 rfl (rj_lt hω (k := 396) rfl) (rj_sh hω ly_396) (And.left (And.right hq5)) ?_
          refine rj_iload_n 2 dX12_find_109 rfl rfl ?_
          exact rj_iret dX12_find_110 rfl (Nat.le_of_ble_eq_true rfl) (Nat.le_of_ble_eq_true rfl) ⟨(by unfold fX12_find; rw [if_pos h1]; rw [if_neg h7]; try rfl), rfl, (by unfold mX12_find; rw [if_pos h1]; rw [if_neg h7]; try rfl)⟩
        · exact absurd (by decide) h9
    · exact absurd (by decide) h2
  · have hq6 := (And.right hqa) h1
    refine rj_iload_n 1 dX12_find_6 rfl rfl ?_
    refine rj_cS (rest := [.ref (ω.2.2 395)]) (sX12_isStage (g := g) (ω := ω) hω μ a0   ) gX12_find_X12_isStage rfl hSX12_isStage ⟨Nat.le_of_ble_eq_true rfl, Nat.le_of_ble_eq_true rfl⟩ dX12_find_7 rfl rfl rfl (Nat.le_of_ble_eq_true rfl) rfl (Nat.le_of_ble_eq_true rfl) rfl ?_
    refine rj_if_eq dX12_find_10 rfl rfl (fun h10 => ?_) (fun h10 => ?_)
    · skip
      refine rj_iconst (v := 0) dX12_find_17 rfl (by decide) ?_
      refine rj_cV (rest := []) (sX12_lacksF (g := g) (ω := ω) hω μ   ) gX12_find_X12_lacks (rj_lt hω (k := 395) rfl) (rj_sh hω ly_395) rfl rfl hVX12_lacks ⟨Nat.le_of_ble_eq_true rfl, Nat.le_of_ble_eq_true rfl⟩ dX12_find_18 rfl rfl rfl (Nat.le_of_ble_eq_true rfl) rfl (Nat.le_of_ble_eq_true rfl) rfl ?_
      refine rj_if_eq dX12_find_21 rfl rfl (fun h11 => ?_) (fun h11 => ?_)
      · exact absurd h11 (by decide)
      · refine rj_iconst (v := 0) dX12_find_24 rfl (by decide) ?_
        exact rj_iret dX12_find_25 rfl (Nat.le_of_ble_eq_true rfl) (Nat.le_of_ble_eq_true rfl) ⟨(by unfold fX12_find; rw [if_neg h1]; rw [if_pos h10]; try rfl), rfl, (by unfold mX12_find; rw [if_neg h1]; rw [if_pos h10]; try rfl)⟩
    · have hq8 := (And.right hq6) h10
      refine rj_iconst (v := 1) dX12_find_13 rfl (by decide) ?_
      refine rj_goto dX12_find_14 rfl ?_
      refine rj_cV (rest := []) (sX12_lacksT (g := g) (ω := ω) hω μ   ) gX12_find_X12_lacks (rj_lt hω (k := 395) rfl) (rj_sh hω ly_395) rfl rfl hVX12_lacks ⟨Nat.le_of_ble_eq_true rfl, Nat.le_of_ble_eq_true rfl⟩ dX12_find_18 rfl rfl rfl (Nat.le_of_ble_eq_true rfl) rfl (Nat.le_of_ble_eq_true rfl) rfl ?_
      refine rj_if_eq dX12_find_21 rfl rfl (fun h12 => ?_) (fun h12 => ?_)
      · refine rj_iconst (v := 0) dX12_find_26 rfl (by decide) ?_
        refine rj_istore_n (l' := [(2, .int 0), (0, .ref (ω.2.2 395)), (1, .int a0)]) dX12_find_27 rfl (rj_bl rfl) rfl ?_
        refine rj_sub (l' := [(0, .ref (ω.2.2 395)), (1, .int a0), (2, .int (nI 0))]) [1, 2, 0] rfl ?_
        refine lX12_find_28b hω μ a0     h1 h10 100 0 () rfl ?_
        refine rj_aload_n 0 dX12_find_73 rfl rfl ?_
        refine rj_iload_n 2 dX12_find_74 rfl rfl ?_
        refine rj_bipush (v := 100) dX12_find_75 rfl (by decide) ?_
        refine rj_icmp_ge dX12_find_77 rfl rfl (fun h18 => ?_) (fun h18 => ?_)
        · skip
          refine rj_iconst (v := 0) dX12_find_84 rfl (by decide) ?_
          refine rj_iconst (v := 2) dX12_find_85 rfl (by decide) ?_
          refine rj_cV (rest := []) (sX12_noF (g := g) (ω := ω) hω (mX12_lacksT μ) 2   ) gX12_find_X12_no (rj_lt hω (k := 395) rfl) (rj_sh hω ly_395) rfl rfl hVX12_no ⟨Nat.le_of_ble_eq_true rfl, Nat.le_of_ble_eq_true rfl⟩ dX12_find_86 rfl rfl rfl (Nat.le_of_ble_eq_true rfl) rfl (Nat.le_of_ble_eq_true rfl) rfl ?_
          refine rj_if_eq dX12_find_89 rfl rfl (fun h19 => ?_) (fun h19 => ?_)
          · exact absurd h19 (by decide)
          · refine rj_iconst (v := 0) dX12_find_92 rfl (by decide) ?_
            exact rj_iret dX12_find_93 rfl (Nat.le_of_ble_eq_true rfl) (Nat.le_of_ble_eq_true rfl) ⟨(by unfold fX12_find; rw [if_neg h1]; rw [if_neg h10]; rw [if_pos h18]; try rfl), rfl, (by unfold mX12_find; rw [if_neg h1]; rw [if_neg h10]; rw [if_pos h18]; try rfl)⟩
        · have hq14 := (And.right hq8) h18
          refine rj_iconst (v := 1) dX12_find_80 rfl (by decide) ?_
          refine rj_goto dX12_find_81 rfl ?_
          refine rj_iconst (v := 2) dX12_find_85 rfl (by decide) ?_
          refine rj_cV (rest := []) (sX12_noT (g := g) (ω := ω) hω (mX12_lacksT μ) 2   ) gX12_find_X12_no (rj_lt hω (k := 395) rfl) (rj_sh hω ly_395) rfl rfl hVX12_no ⟨Nat.le_of_ble_eq_true rfl, Nat.le_of_ble_eq_true rfl⟩ dX12_find_86 rfl rfl rfl (Nat.le_of_ble_eq_true rfl) rfl (Nat.le_of_ble_eq_true rfl) rfl ?_
          refine rj_if_eq dX12_find_89 rfl rfl (fun h20 => ?_) (fun h20 => ?_)
          · refine rj_aload_n 0 dX12_find_94 rfl rfl ?_
            refine rj_cV (rest := []) (sX12_keeps (g := g) (ω := ω) hω (mX12_lacksT μ)   (And.left hq14)) gX12_find_X12_keeps (rj_lt hω (k := 395) rfl) (rj_sh hω ly_395) rfl rfl hVX12_keeps ⟨Nat.le_of_ble_eq_true rfl, Nat.le_of_ble_eq_true rfl⟩ dX12_find_95 rfl rfl rfl (Nat.le_of_ble_eq_true rfl) rfl (Nat.le_of_ble_eq_true rfl) rfl ?_
            refine rj_aload_n 0 dX12_find_98 rfl rfl ?_
            refine rj_getR (C0 := RX12) (T := TX12) (N := 16) (j := 1) (r := 396) dX12_find_99 rfl vX12_find_12 rfl (rj_lt hω (k := 395) rfl) (rj_sh hω ly_395) (by decide) kX12_find_9 rfl ?_
            refine rj_sipush (v := 525) dX12_find_102 rfl (by decide) ?_
            refine rj_iload_n 2 dX12_find_105 rfl rfl ?_
            refine rj_iadd dX12_find_106 rfl ?_
            refine rj_iconst (v := (-1)) dX12_find_107 rfl (by decide) ?_
            refine rj_iast dX12_find_108 rfl (rj_lt hω (k := 396) rfl) (rj_sh hω ly_396) (And.left (And.right hq14)) ?_
            refine rj_iload_n 2 dX12_find_109 rfl rfl ?_
            exact rj_iret dX12_find_110 rfl (Nat.le_of_ble_eq_true rfl) (Nat.le_of_ble_eq_true rfl) ⟨(by unfold fX12_find; rw [if_neg h1]; rw [if_neg h10]; rw [if_neg h18]; try rfl), rfl, (by unfold mX12_find; rw [if_neg h1]; rw [if_neg h10]; rw [if_neg h18]; try rfl)⟩
          · exact absurd (by decide) h20
      · exact absurd (by decide) h12
theorem hSX12_lost : yX12_lost.cls ≠ "java/lang/invoke/MethodHandle" ∧ yX12_lost.cls ≠ "java/lang/invoke/VarHandle" ∧ (parseMethodDescriptor yX12_lost.desc).map (fun d => d.parameters.length) = some 0 := by decide +kernel
theorem hVX12_lost : yX12_lost.cls = RX12 ∧ yX12_lost.cls ≠ "java/lang/invoke/MethodHandle" ∧ yX12_lost.cls ≠ "java/lang/invoke/VarHandle" ∧ (parseMethodDescriptor yX12_lost.desc).map (fun d => d.parameters.length) = some 0 := by decide +kernel
theorem vX12_lost_12 : ∀ w ∈ u_ws RX12 TX12 16, w ∈ wsX12_lost := by decide +kernel
theorem kX12_lost_39 : Cond.fieldLink RX12 39 (TX12 0).1 (TX12 0).2.1 (TX12 0).2.2.1 ∈ wsX12_lost := by decide +kernel
noncomputable def fX12_lost (μ : rj_M) : Int32 := (fX12_lostNow (rj_pi μ 395 0 0))
noncomputable def mX12_lost (μ : rj_M) : rj_M := (rj_pi μ 395 0 0)
set_option maxHeartbeats 40000000 in
set_option maxRecDepth 100000 in
theorem sX12_lost {g : rj_G} {ω : rj_W} (hω : rj_ok ω) (μ : rj_M)   : rj_Sp g yX12_lost wsX12_lost (rj_rm 1 0) [.ref (ω.2.2 395)] ω μ (rj_D (.inl (some (.int (fX12_lost μ)))) ω (mX12_lost μ)) := by
  refine rj_of' (cc := cX12_lost) (nL := 1) (ret := (some .int)) (own := RX12) (l0 := [(0, .ref (ω.2.2 395))]) rfl (by decide +kernel) rfl (Nat.le_of_ble_eq_true rfl) rfl ?_
  refine rj_aload_n 0 dX12_lost_0 rfl rfl ?_
  refine rj_iconst (v := 0) dX12_lost_1 rfl (by decide) ?_
  refine rj_putI (C0 := RX12) (T := TX12) (N := 16) (j := 0) dX12_lost_2 rfl vX12_lost_12 rfl (rj_lt hω (k := 395) rfl) (rj_sh hω ly_395) (by decide) kX12_lost_39 tyX12 tyX12_ok nmX12 rfl rfl rfl rfl ?_
  refine rj_aload_n 0 dX12_lost_5 rfl rfl ?_
  refine rj_cV (rest := []) (sX12_lostNow (g := g) (ω := ω) hω (rj_pi μ 395 0 0)   ) gX12_lost_X12_lostNow (rj_lt hω (k := 395) rfl) (rj_sh hω ly_395) rfl rfl hVX12_lostNow ⟨Nat.le_of_ble_eq_true rfl, Nat.le_of_ble_eq_true rfl⟩ dX12_lost_6 rfl rfl rfl (Nat.le_of_ble_eq_true rfl) rfl (Nat.le_of_ble_eq_true rfl) rfl ?_
  exact rj_iret dX12_lost_9 rfl (Nat.le_of_ble_eq_true rfl) (Nat.le_of_ble_eq_true rfl) ⟨(by unfold fX12_lost; rfl), rfl, (by unfold mX12_lost; rfl)⟩
