theorem hSX12_costOf : yX12_costOf.cls ≠ "java/lang/invoke/MethodHandle" ∧ yX12_costOf.cls ≠ "java/lang/invoke/VarHandle" ∧ (parseMethodDescriptor yX12_costOf.desc).map (fun d => d.parameters.length) = some 3 := by decide +kernel
theorem hVX12_costOf : yX12_costOf.cls = RX12 ∧ yX12_costOf.cls ≠ "java/lang/invoke/MethodHandle" ∧ yX12_costOf.cls ≠ "java/lang/invoke/VarHandle" ∧ (parseMethodDescriptor yX12_costOf.desc).map (fun d => d.parameters.length) = some 3 := by decide +kernel
theorem vX12_costOf_12 : ∀ w ∈ u_ws RX12 TX12 16, w ∈ wsX12_costOf := by decide +kernel
theorem kX12_costOf_9 : Cond.fieldLink RX12 9 (TX12 1).1 (TX12 1).2.1 (TX12 1).2.2.1 ∈ wsX12_costOf := by decide +kernel
noncomputable def bX12_costOf_9 (μ : rj_M) (a0 : Int32) (a1 : Int32) (a2 : Int32) (j9 : Nat) (s9 : Int32 × Int32) : (Int32 × Int32) := (if ((a2 >>> ((nI j9) &&& 31)) &&& 1) = 0 then (s9.1, s9.2) else (if ((a1 >>> ((nI j9) &&& 31)) &&& 1) = 0 then ((s9.1 + (μ.1 396 (436 + (3 * (nI j9))).toNatClampNeg)), (s9.2 + ((μ.1 396 ((436 + (3 * (nI j9))) + 2).toNatClampNeg) + (μ.1 396 ((436 + (3 * (nI j9))) + 1).toNatClampNeg)))) else ((s9.1 + (μ.1 396 (436 + (3 * (nI j9))).toNatClampNeg)), (s9.2 + ((μ.1 396 ((436 + (3 * (nI j9))) + 2).toNatClampNeg) + 0)))))
set_option maxHeartbeats 4000000 in
set_option maxRecDepth 100000 in
theorem lX12_costOf_9 {g : rj_G} {ω : rj_W} (hω : rj_ok ω) (μ : rj_M) (a0 : Int32) (a1 : Int32) (a2 : Int32)     (hp_a0 : (vp_in a0 24)) {F : rj_F} : ∀ (r j : Nat) (s : Int32 × Int32), j + r = 4 → (rj_R g RX12 cX12_costOf 7 (some .int) wsX12_costOf [] (rj_rm 0 0) F 0 ω μ [(0, .ref (ω.2.2 395)), (1, .int a0), (2, .int a1), (3, .int a2), (4, .int ((rj_fo (bX12_costOf_9 μ a0 a1 a2) r j s).1)), (5, .int ((rj_fo (bX12_costOf_9 μ a0 a1 a2) r j s).2)), (6, .int (nI 4))] 100 []) → rj_R g RX12 cX12_costOf 7 (some .int) wsX12_costOf [] (rj_rm 0 0) F 0 ω μ [(0, .ref (ω.2.2 395)), (1, .int a0), (2, .int a1), (3, .int a2), (4, .int s.1), (5, .int s.2), (6, .int (nI j))] 9 [] := by
  intro r
  induction r with
  | zero =>
    intro j s hj K
    have e0 : j = 4 := by omega
    have hge : 4 ≤ nI j := by
      rw [e0]
      exact Int32.le_refl _
    refine rj_iload 6 dX12_costOf_9 rfl rfl ?_
    refine rj_iconst (v := 4) dX12_costOf_11 rfl (by decide) ?_
    refine rj_icmp_ge dX12_costOf_12 rfl rfl (fun h4 => ?_) (fun h4 => ?_)
    · have e1 : nI j = nI 4 := by rw [e0]
      rw [e1]
      exact K
    · exact absurd hge h4
  | succ r ih =>
    intro j9 s9 hj K
    have hl9 : j9 < 4 := by omega
    have hg9 : ¬ 4 ≤ nI j9 := nI_ge hl9 (rj_bl rfl)
    refine rj_iload 6 dX12_costOf_9 rfl rfl ?_
    refine rj_iconst (v := 4) dX12_costOf_11 rfl (by decide) ?_
    refine rj_icmp_ge dX12_costOf_12 rfl rfl (fun h1 => ?_) (fun h1 => ?_)
    · exact absurd h1 hg9
    · refine rj_iload_n 3 dX12_costOf_15 rfl rfl ?_
      refine rj_iload 6 dX12_costOf_16 rfl rfl ?_
      refine rj_ishr dX12_costOf_18 rfl ?_
      refine rj_iconst (v := 1) dX12_costOf_19 rfl (by decide) ?_
      refine rj_iand dX12_costOf_20 rfl ?_
      refine rj_if_ne dX12_costOf_21 rfl rfl (fun h2 => ?_) (fun h2 => ?_)
      · refine rj_iload 4 dX12_costOf_27 rfl rfl ?_
        refine rj_aload_n 0 dX12_costOf_29 rfl rfl ?_
        refine rj_getR (C0 := RX12) (T := TX12) (N := 16) (j := 1) (r := 396) dX12_costOf_30 rfl vX12_costOf_12 rfl (rj_lt hω (k := 395) rfl) (rj_sh hω ly_395) (by decide) kX12_costOf_9 rfl ?_
        refine rj_sipush (v := 436) dX12_costOf_33 rfl (by decide) ?_
        refine rj_iconst (v := 3) dX12_costOf_36 rfl (by decide) ?_
        refine rj_iload 6 dX12_costOf_37 rfl rfl ?_
        refine rj_imul dX12_costOf_39 rfl ?_
        refine rj_iadd dX12_costOf_40 rfl ?_
        refine rj_iald dX12_costOf_41 rfl (rj_lt hω (k := 396) rfl) (rj_sh hω ly_396) (rj_vle (rj_vadd (N := 446) (vp_in_nI (n := 436) (N := 437) (rj_bl rfl) (rj_bl rfl)) (rj_vmul (k := 3) (N := 10) (vp_in_nI (N := 4) hl9 (rj_bl rfl)) rfl rfl) rfl rfl) rfl) ?_
        refine rj_iadd dX12_costOf_42 rfl ?_
        refine rj_istore (l' := [(4, .int (s9.1 + (μ.1 396 (436 + (3 * (nI j9))).toNatClampNeg))), (0, .ref (ω.2.2 395)), (1, .int a0), (2, .int a1), (3, .int a2), (5, .int s9.2), (6, .int (nI j9))]) dX12_costOf_43 rfl (rj_bl rfl) rfl ?_
        refine rj_iload 5 dX12_costOf_45 rfl rfl ?_
        refine rj_aload_n 1 dX12_costOf_47 rfl rfl ?_
        refine rj_getR (C0 := RX12) (T := TX12) (N := 16) (j := 1) (r := 396) dX12_costOf_48 rfl vX12_costOf_12 rfl (rj_lt hω (k := 395) rfl) (rj_sh hω ly_395) (by decide) kX12_costOf_9 rfl ?_
        refine rj_sipush (v := 436) dX12_costOf_51 rfl (by decide) ?_
        refine rj_iconst (v := 3) dX12_costOf_54 rfl (by decide) ?_
        refine rj_iload 6 dX12_costOf_55 rfl rfl ?_
        refine rj_imul dX12_costOf_57 rfl ?_
        refine rj_iadd dX12_costOf_58 rfl ?_
        refine rj_iconst (v := 2) dX12_costOf_59 rfl (by decide) ?_
        refine rj_iadd dX12_costOf_60 rfl ?_
        refine rj_iald dX12_costOf_61 rfl (rj_lt hω (k := 396) rfl) (rj_sh hω ly_396) (rj_vle (rj_vadd (N := 448) (rj_vadd (N := 446) (vp_in_nI (n := 436) (N := 437) (rj_bl rfl) (rj_bl rfl)) (rj_vmul (k := 3) (N := 10) (vp_in_nI (N := 4) hl9 (rj_bl rfl)) rfl rfl) rfl rfl) (vp_in_nI (n := 2) (N := 3) (rj_bl rfl) (rj_bl rfl)) rfl rfl) rfl) ?_
        refine rj_iload_n 3 dX12_costOf_62 rfl rfl ?_
        refine rj_iload 6 dX12_costOf_63 rfl rfl ?_
        refine rj_ishr dX12_costOf_65 rfl ?_
        refine rj_iconst (v := 1) dX12_costOf_66 rfl (by decide) ?_
        refine rj_iand dX12_costOf_67 rfl ?_
        refine rj_if_ne dX12_costOf_68 rfl rfl (fun h3 => ?_) (fun h3 => ?_)
        · refine rj_iconst (v := 0) dX12_costOf_89 rfl (by decide) ?_
          refine rj_iadd dX12_costOf_90 rfl ?_
          refine rj_iadd dX12_costOf_91 rfl ?_
          refine rj_istore (l' := [(5, .int (s9.2 + ((μ.1 396 ((436 + (3 * (nI j9))) + 2).toNatClampNeg) + 0))), (4, .int (s9.1 + (μ.1 396 (436 + (3 * (nI j9))).toNatClampNeg))), (0, .ref (ω.2.2 395)), (1, .int a0), (2, .int a1), (3, .int a2), (6, .int (nI j9))]) dX12_costOf_92 rfl (rj_bl rfl) rfl ?_
          refine rj_iinc (v := nI (j9 + 1)) (l' := [(6, .int (nI (j9 + 1))), (5, .int (s9.2 + ((μ.1 396 ((436 + (3 * (nI j9))) + 2).toNatClampNeg) + 0))), (4, .int (s9.1 + (μ.1 396 (436 + (3 * (nI j9))).toNatClampNeg))), (0, .ref (ω.2.2 395)), (1, .int a0), (2, .int a1), (3, .int a2)]) 6 dX12_costOf_94 rfl rfl (nI_succ j9).symm (rj_bl rfl) rfl ?_
          refine rj_goto dX12_costOf_97 rfl ?_
          have e : bX12_costOf_9 μ a0 a1 a2 j9 s9 = ((s9.1 + (μ.1 396 (436 + (3 * (nI j9))).toNatClampNeg)), (s9.2 + ((μ.1 396 ((436 + (3 * (nI j9))) + 2).toNatClampNeg) + 0))) := by unfold bX12_costOf_9; rw [if_neg h2]; rw [if_neg h3]; try rfl
          exact rj_sub (l' := [(0, .ref (ω.2.2 395)), (1, .int a0), (2, .int a1), (3, .int a2), (4, .int (s9.1 + (μ.1 396 (436 + (3 * (nI j9))).toNatClampNeg))), (5, .int (s9.2 + ((μ.1 396 ((436 + (3 * (nI j9))) + 2).toNatClampNeg) + 0))), (6, .int (nI (j9 + 1)))]) [3, 4, 5, 6, 2, 1, 0] rfl (ih (j9 + 1) ((s9.1 + (μ.1 396 (436 + (3 * (nI j9))).toNatClampNeg)), (s9.2 + ((μ.1 396 ((436 + (3 * (nI j9))) + 2).toNatClampNeg) + 0))) (by omega) (by rw [rj_fo_s (r := r), e] at K; exact K))
        · refine rj_aload_n 1 dX12_costOf_71 rfl rfl ?_
          refine rj_getR (C0 := RX12) (T := TX12) (N := 16) (j := 1) (r := 396) dX12_costOf_72 rfl vX12_costOf_12 rfl (rj_lt hω (k := 395) rfl) (rj_sh hω ly_395) (by decide) kX12_costOf_9 rfl ?_
          refine rj_sipush (v := 436) dX12_costOf_75 rfl (by decide) ?_
          refine rj_iconst (v := 3) dX12_costOf_78 rfl (by decide) ?_
          refine rj_iload 6 dX12_costOf_79 rfl rfl ?_
          refine rj_imul dX12_costOf_81 rfl ?_
          refine rj_iadd dX12_costOf_82 rfl ?_
          refine rj_iconst (v := 1) dX12_costOf_83 rfl (by decide) ?_
          refine rj_iadd dX12_costOf_84 rfl ?_
          refine rj_iald dX12_costOf_85 rfl (rj_lt hω (k := 396) rfl) (rj_sh hω ly_396) (rj_vle (rj_vadd (N := 447) (rj_vadd (N := 446) (vp_in_nI (n := 436) (N := 437) (rj_bl rfl) (rj_bl rfl)) (rj_vmul (k := 3) (N := 10) (vp_in_nI (N := 4) hl9 (rj_bl rfl)) rfl rfl) rfl rfl) (vp_in_nI (n := 1) (N := 2) (rj_bl rfl) (rj_bl rfl)) rfl rfl) rfl) ?_
          refine rj_goto dX12_costOf_86 rfl ?_
          refine rj_iadd dX12_costOf_90 rfl ?_
          refine rj_iadd dX12_costOf_91 rfl ?_
          refine rj_istore (l' := [(5, .int (s9.2 + ((μ.1 396 ((436 + (3 * (nI j9))) + 2).toNatClampNeg) + (μ.1 396 ((436 + (3 * (nI j9))) + 1).toNatClampNeg)))), (4, .int (s9.1 + (μ.1 396 (436 + (3 * (nI j9))).toNatClampNeg))), (0, .ref (ω.2.2 395)), (1, .int a0), (2, .int a1), (3, .int a2), (6, .int (nI j9))]) dX12_costOf_92 rfl (rj_bl rfl) rfl ?_
          refine rj_iinc (v := nI (j9 + 1)) (l' := [(6, .int (nI (j9 + 1))), (5, .int (s9.2 + ((μ.1 396 ((436 + (3 * (nI j9))) + 2).toNatClampNeg) + (μ.1 396 ((436 + (3 * (nI j9))) + 1).toNatClampNeg)))), (4, .int (s9.1 + (μ.1 396 (436 + (3 * (nI j9))).toNatClampNeg))), (0, .ref (ω.2.2 395)), (1, .int a0), (2, .int a1), (3, .int a2)]) 6 dX12_costOf_94 rfl rfl (nI_succ j9).symm (rj_bl rfl) rfl ?_
          refine rj_goto dX12_costOf_97 rfl ?_
          have e : bX12_costOf_9 μ a0 a1 a2 j9 s9 = ((s9.1 + (μ.1 396 (436 + (3 * (nI j9))).toNatClampNeg)), (s9.2 + ((μ.1 396 ((436 + (3 * (nI j9))) + 2).toNatClampNeg) + (μ.1 396 ((436 + (3 * (nI j9))) + 1).toNatClampNeg)))) := by unfold bX12_costOf_9; rw [if_neg h2]; rw [if_pos h3]; try rfl
          exact rj_sub (l' := [(0, .ref (ω.2.2 395)), (1, .int a0), (2, .int a1), (3, .int a2), (4, .int (s9.1 + (μ.1 396 (436 + (3 * (nI j9))).toNatClampNeg))), (5, .int (s9.2 + ((μ.1 396 ((436 + (3 * (nI j9))) + 2).toNatClampNeg) + (μ.1 396 ((436 + (3 * (nI j9))) + 1).toNatClampNeg)))), (6, .int (nI (j9 + 1)))]) [3, 4, 5, 6, 2, 1, 0] rfl (ih (j9 + 1) ((s9.1 + (μ.1 396 (436 + (3 * (nI j9))).toNatClampNeg)), (s9.2 + ((μ.1 396 ((436 + (3 * (nI j9))) + 2).toNatClampNeg) + (μ.1 396 ((436 + (3 * (nI j9))) + 1).toNatClampNeg)))) (by omega) (by rw [rj_fo_s (r := r), e] at K; exact K))
      · refine rj_goto dX12_costOf_24 rfl ?_
        refine rj_iinc (v := nI (j9 + 1)) (l' := [(6, .int (nI (j9 + 1))), (0, .ref (ω.2.2 395)), (1, .int a0), (2, .int a1), (3, .int a2), (4, .int s9.1), (5, .int s9.2)]) 6 dX12_costOf_94 rfl rfl (nI_succ j9).symm (rj_bl rfl) rfl ?_
        refine rj_goto dX12_costOf_97 rfl ?_
        have e : bX12_costOf_9 μ a0 a1 a2 j9 s9 = (s9.1, s9.2) := by unfold bX12_costOf_9; rw [if_pos h2]; try rfl
        exact rj_sub (l' := [(0, .ref (ω.2.2 395)), (1, .int a0), (2, .int a1), (3, .int a2), (4, .int s9.1), (5, .int s9.2), (6, .int (nI (j9 + 1)))]) [1, 2, 3, 4, 5, 6, 0] rfl (ih (j9 + 1) (s9.1, s9.2) (by omega) (by rw [rj_fo_s (r := r), e] at K; exact K))
set_option maxHeartbeats 4000000 in
theorem lX12_costOf_9u {g : rj_G} {ω : rj_W} (hω : rj_ok ω) (μ : rj_M) (a0 : Int32) (a1 : Int32) (a2 : Int32)     (hp_a0 : (vp_in a0 24)) {F : rj_F} : ∀ (r j : Nat) (c0 : Int32) (c1 : Int32), j + r = 4 → (rj_R g RX12 cX12_costOf 7 (some .int) wsX12_costOf [] (rj_rm 0 0) F 0 ω μ [(0, .ref (ω.2.2 395)), (1, .int a0), (2, .int a1), (3, .int a2), (4, .int ((rj_fo (bX12_costOf_9 μ a0 a1 a2) r j (c0, c1)).1)), (5, .int ((rj_fo (bX12_costOf_9 μ a0 a1 a2) r j (c0, c1)).2)), (6, .int (nI 4))] 100 []) → rj_R g RX12 cX12_costOf 7 (some .int) wsX12_costOf [] (rj_rm 0 0) F 0 ω μ [(0, .ref (ω.2.2 395)), (1, .int a0), (2, .int a1), (3, .int a2), (4, .int c0), (5, .int c1), (6, .int (nI j))] 9 [] := fun r j c0 c1 => lX12_costOf_9 hω μ a0 a1 a2     hp_a0 r j (c0, c1)
noncomputable def fX12_costOf (μ : rj_M) (a0 : Int32) (a1 : Int32) (a2 : Int32) : Int32 := (if (μ.1 396 (412 + a0).toNatClampNeg) ≤ (rj_fo (bX12_costOf_9 μ a0 a1 a2) 4 0 (0, 0)).1 then (rj_fo (bX12_costOf_9 μ a0 a1 a2) 4 0 (0, 0)).2 else (-1))
set_option maxHeartbeats 40000000 in
set_option maxRecDepth 100000 in
theorem sX12_costOf {g : rj_G} {ω : rj_W} (hω : rj_ok ω) (μ : rj_M) (a0 : Int32) (a1 : Int32) (a2 : Int32)  (hp_a0 : vp_in a0 24)  : rj_Sp g yX12_costOf wsX12_costOf (rj_rm 0 0) [.ref (ω.2.2 395), .int a0, .int a1, .int a2] ω μ (rj_D (.inl (some (.int (fX12_costOf μ a0 a1 a2)))) ω μ) := by
  refine rj_of' (cc := cX12_costOf) (nL := 7) (ret := (some .int)) (own := RX12) (l0 := [(0, .ref (ω.2.2 395)), (1, .int a0), (2, .int a1), (3, .int a2)]) rfl (by decide +kernel) rfl (Nat.le_of_ble_eq_true rfl) rfl ?_
  refine rj_iconst (v := 0) dX12_costOf_0 rfl (by decide) ?_
  refine rj_istore (l' := [(4, .int 0), (0, .ref (ω.2.2 395)), (1, .int a0), (2, .int a1), (3, .int a2)]) dX12_costOf_1 rfl (rj_bl rfl) rfl ?_
  refine rj_iconst (v := 0) dX12_costOf_3 rfl (by decide) ?_
  refine rj_istore (l' := [(5, .int 0), (4, .int 0), (0, .ref (ω.2.2 395)), (1, .int a0), (2, .int a1), (3, .int a2)]) dX12_costOf_4 rfl (rj_bl rfl) rfl ?_
  refine rj_iconst (v := 0) dX12_costOf_6 rfl (by decide) ?_
  refine rj_istore (l' := [(6, .int 0), (5, .int 0), (4, .int 0), (0, .ref (ω.2.2 395)), (1, .int a0), (2, .int a1), (3, .int a2)]) dX12_costOf_7 rfl (rj_bl rfl) rfl ?_
  refine rj_sub (l' := [(0, .ref (ω.2.2 395)), (1, .int a0), (2, .int a1), (3, .int a2), (4, .int 0), (5, .int 0), (6, .int (nI 0))]) [3, 4, 5, 6, 2, 1, 0] rfl ?_
  refine lX12_costOf_9u hω μ a0 a1 a2     hp_a0 4 0 0 0 rfl ?_
  refine rj_iload 4 dX12_costOf_100 rfl rfl ?_
  refine rj_aload_n 0 dX12_costOf_102 rfl rfl ?_
  refine rj_getR (C0 := RX12) (T := TX12) (N := 16) (j := 1) (r := 396) dX12_costOf_103 rfl vX12_costOf_12 rfl (rj_lt hω (k := 395) rfl) (rj_sh hω ly_395) (by decide) kX12_costOf_9 rfl ?_
  refine rj_sipush (v := 412) dX12_costOf_106 rfl (by decide) ?_
  refine rj_iload_n 1 dX12_costOf_109 rfl rfl ?_
  refine rj_iadd dX12_costOf_110 rfl ?_
  refine rj_iald dX12_costOf_111 rfl (rj_lt hω (k := 396) rfl) (rj_sh hω ly_396) (rj_vle (rj_vadd (N := 436) (vp_in_nI (n := 412) (N := 413) (rj_bl rfl) (rj_bl rfl)) hp_a0 rfl rfl) rfl) ?_
  refine rj_icmp_ge dX12_costOf_112 rfl rfl (fun h5 => ?_) (fun h5 => ?_)
  · refine rj_iload 5 dX12_costOf_119 rfl rfl ?_
    exact rj_iret dX12_costOf_121 rfl (Nat.le_of_ble_eq_true rfl) (Nat.le_of_ble_eq_true rfl) ⟨(by unfold fX12_costOf; rw [if_pos h5]; try rfl), rfl, rfl⟩
  · refine rj_iconst (v := (-1)) dX12_costOf_115 rfl (by decide) ?_
    refine rj_goto dX12_costOf_116 rfl ?_
    exact rj_iret dX12_costOf_121 rfl (Nat.le_of_ble_eq_true rfl) (Nat.le_of_ble_eq_true rfl) ⟨(by unfold fX12_costOf; rw [if_neg h5]; try rfl), rfl, rfl⟩
theorem hSX12_costWith : yX12_costWith.cls ≠ "java/lang/invoke/MethodHandle" ∧ yX12_costWith.cls ≠ "java/lang/invoke/VarHandle" ∧ (parseMethodDescriptor yX12_costWith.desc).map (fun d => d.parameters.length) = some 3 := by decide +kernel
theorem hVX12_costWith : yX12_costWith.cls = RX12 ∧ yX12_costWith.cls ≠ "java/lang/invoke/MethodHandle" ∧ yX12_costWith.cls ≠ "java/lang/invoke/VarHandle" ∧ (parseMethodDescriptor yX12_costWith.desc).map (fun d => d.parameters.length) = some 3 := by decide +kernel
theorem vX12_costWith_12 : ∀ w ∈ u_ws RX12 TX12 16, w ∈ wsX12_costWith := by decide +kernel
theorem kX12_costWith_27 : Cond.fieldLink RX12 27 (TX12 10).1 (TX12 10).2.1 (TX12 10).2.2.1 ∈ wsX12_costWith := by decide +kernel
noncomputable def fX12_costWith (μ : rj_M) (a0 : Int32) (a1 : Int32) (a2 : Int32) : Int32 := (if (fX12_costOf μ a0 a1 a2) = (-1) then (-1) else (if (μ.1 (μ.2.2.2 409 (a0 + 1).toNatClampNeg - 1) a2.toNatClampNeg) = (-1) then (-1) else ((fX12_costOf μ a0 a1 a2) + (μ.1 (μ.2.2.2 409 (a0 + 1).toNatClampNeg - 1) a2.toNatClampNeg))))
noncomputable def qX12_costWith (μ : rj_M) (a0 : Int32) (a1 : Int32) (a2 : Int32) : Prop := ((((fX12_costOf μ a0 a1 a2) = (-1)) → True) ∧ ((¬ ((fX12_costOf μ a0 a1 a2) = (-1))) → (rj_row μ 409 25 410 435 (a0 + 1) ∧ ((((μ.1 (μ.2.2.2 409 (a0 + 1).toNatClampNeg - 1) a2.toNatClampNeg) = (-1)) → True) ∧ ((¬ ((μ.1 (μ.2.2.2 409 (a0 + 1).toNatClampNeg - 1) a2.toNatClampNeg) = (-1))) → (rj_row μ 409 25 410 435 (a0 + 1) ∧ True))))))
set_option maxHeartbeats 40000000 in
set_option maxRecDepth 100000 in
theorem sX12_costWith {g : rj_G} {ω : rj_W} (hω : rj_ok ω) (μ : rj_M) (a0 : Int32) (a1 : Int32) (a2 : Int32)  (hp_a0 : vp_in a0 24) (hp_a2 : vp_in a2 16)  (hq : qX12_costWith μ a0 a1 a2) : rj_Sp g yX12_costWith wsX12_costWith (rj_rm 1 0) [.ref (ω.2.2 395), .int a0, .int a1, .int a2] ω μ (rj_D (.inl (some (.int (fX12_costWith μ a0 a1 a2)))) ω μ) := by
  have hqa := hq
  unfold qX12_costWith at hqa
  refine rj_of' (cc := cX12_costWith) (nL := 5) (ret := (some .int)) (own := RX12) (l0 := [(0, .ref (ω.2.2 395)), (1, .int a0), (2, .int a1), (3, .int a2)]) rfl (by decide +kernel) rfl (Nat.le_of_ble_eq_true rfl) rfl ?_
  refine rj_aload_n 0 dX12_costWith_0 rfl rfl ?_
  refine rj_iload_n 1 dX12_costWith_1 rfl rfl ?_
  refine rj_iload_n 2 dX12_costWith_2 rfl rfl ?_
  refine rj_iload_n 3 dX12_costWith_3 rfl rfl ?_
  refine rj_cV (rest := []) (sX12_costOf (g := g) (ω := ω) hω μ a0 a1 a2  hp_a0 ) gX12_costWith_X12_costOf (rj_lt hω (k := 395) rfl) (rj_sh hω ly_395) rfl rfl hVX12_costOf ⟨Nat.le_of_ble_eq_true rfl, Nat.le_of_ble_eq_true rfl⟩ dX12_costWith_4 rfl rfl rfl (Nat.le_of_ble_eq_true rfl) rfl (Nat.le_of_ble_eq_true rfl) rfl ?_
  refine rj_istore (l' := [(4, .int (fX12_costOf μ a0 a1 a2)), (0, .ref (ω.2.2 395)), (1, .int a0), (2, .int a1), (3, .int a2)]) dX12_costWith_7 rfl (rj_bl rfl) rfl ?_
  refine rj_iload 0 dX12_costWith_9 rfl rfl ?_
  refine rj_iconst (v := (-1)) dX12_costWith_11 rfl (by decide) ?_
  refine rj_icmp_eq dX12_costWith_12 rfl rfl (fun h1 => ?_) (fun h1 => ?_)
  · skip
    refine rj_iconst (v := (-1)) dX12_costWith_29 rfl (by decide) ?_
    refine rj_goto dX12_costWith_30 rfl ?_
    exact rj_iret dX12_costWith_46 rfl (Nat.le_of_ble_eq_true rfl) (Nat.le_of_ble_eq_true rfl) ⟨(by unfold fX12_costWith; rw [if_pos h1]; try rfl), rfl, rfl⟩
  · have hq2 := (And.right hqa) h1
    refine rj_aload_n 1 dX12_costWith_15 rfl rfl ?_
    refine rj_getR (C0 := RX12) (T := TX12) (N := 16) (j := 10) (r := 409) dX12_costWith_16 rfl vX12_costWith_12 rfl (rj_lt hω (k := 395) rfl) (rj_sh hω ly_395) (by decide) kX12_costWith_27 rfl ?_
    refine rj_iload_n 2 dX12_costWith_19 rfl rfl ?_
    refine rj_iconst (v := 1) dX12_costWith_20 rfl (by decide) ?_
    refine rj_iadd dX12_costWith_21 rfl ?_
    have hrow3 := (And.left hq2)
    refine rj_qaldR dX12_costWith_22 rfl (rj_lt hω (k := 409) rfl) (rj_sh hω ly_409) hrow3 ?_
    refine rj_iload_n 4 dX12_costWith_23 rfl rfl ?_
    refine rj_iald dX12_costWith_24 rfl (rj_rowlt hω hrow3 rfl) (rj_rowsh409 hω hrow3) hp_a2 ?_
    refine rj_iconst (v := (-1)) dX12_costWith_25 rfl (by decide) ?_
    refine rj_icmp_ne dX12_costWith_26 rfl rfl (fun h2 => ?_) (fun h2 => ?_)
    · have hq4 := (And.right (And.right hq2)) h2
      refine rj_iload 0 dX12_costWith_33 rfl rfl ?_
      refine rj_aload_n 1 dX12_costWith_35 rfl rfl ?_
      refine rj_getR (C0 := RX12) (T := TX12) (N := 16) (j := 10) (r := 409) dX12_costWith_36 rfl vX12_costWith_12 rfl (rj_lt hω (k := 395) rfl) (rj_sh hω ly_395) (by decide) kX12_costWith_27 rfl ?_
      refine rj_iload_n 2 dX12_costWith_39 rfl rfl ?_
      refine rj_iconst (v := 1) dX12_costWith_40 rfl (by decide) ?_
      refine rj_iadd dX12_costWith_41 rfl ?_
      have hrow5 := (And.left hq4)
      refine rj_qaldR dX12_costWith_42 rfl (rj_lt hω (k := 409) rfl) (rj_sh hω ly_409) hrow5 ?_
      refine rj_iload_n 4 dX12_costWith_43 rfl rfl ?_
      refine rj_iald dX12_costWith_44 rfl (rj_rowlt hω hrow5 rfl) (rj_rowsh409 hω hrow5) hp_a2 ?_
      refine rj_iadd dX12_costWith_45 rfl ?_
      exact rj_iret dX12_costWith_46 rfl (Nat.le_of_ble_eq_true rfl) (Nat.le_of_ble_eq_true rfl) ⟨(by unfold fX12_costWith; rw [if_neg h1]; rw [if_neg h2]; try rfl), rfl, rfl⟩
    · skip
      refine rj_iconst (v := (-1)) dX12_costWith_29 rfl (by decide) ?_
      refine rj_goto dX12_costWith_30 rfl ?_
      exact rj_iret dX12_costWith_46 rfl (Nat.le_of_ble_eq_true rfl) (Nat.le_of_ble_eq_true rfl) ⟨(by unfold fX12_costWith; rw [if_neg h1]; rw [if_pos h2]; try rfl), rfl, rfl⟩
