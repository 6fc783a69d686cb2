theorem hSX12_pass : yX12_pass.cls ≠ "java/lang/invoke/MethodHandle" ∧ yX12_pass.cls ≠ "java/lang/invoke/VarHandle" ∧ (parseMethodDescriptor yX12_pass.desc).map (fun d => d.parameters.length) = some 1 := by decide +kernel
theorem hVX12_pass : yX12_pass.cls = RX12 ∧ yX12_pass.cls ≠ "java/lang/invoke/MethodHandle" ∧ yX12_pass.cls ≠ "java/lang/invoke/VarHandle" ∧ (parseMethodDescriptor yX12_pass.desc).map (fun d => d.parameters.length) = some 1 := by decide +kernel
theorem vX12_pass_12 : ∀ w ∈ u_ws RX12 TX12 16, w ∈ wsX12_pass := by decide +kernel
theorem kX12_pass_9 : Cond.fieldLink RX12 9 (TX12 1).1 (TX12 1).2.1 (TX12 1).2.2.1 ∈ wsX12_pass := by decide +kernel
noncomputable def bX12_pass_24 (μ : rj_M) (a0 : Int32) (j24 : Nat) (s24 : Int32 × rj_M) : (Int32 × rj_M) := (if (fX12_lineOf s24.2 ((nI j24) - (nI j24) / 3 * 3)) = 0 then (s24.1, s24.2) else (if ((rj_pi s24.2 396 (370 + ((nI j24) - (nI j24) / 3 * 3)).toNatClampNeg ((s24.2.1 396 (370 + ((nI j24) - (nI j24) / 3 * 3)).toNatClampNeg) - 1)).1 396 (370 + ((nI j24) - (nI j24) / 3 * 3)).toNatClampNeg) ≤ 0 then (s24.1 + 1, (mX12_takesOut (rj_pi s24.2 396 (370 + ((nI j24) - (nI j24) / 3 * 3)).toNatClampNeg ((s24.2.1 396 (370 + ((nI j24) - (nI j24) / 3 * 3)).toNatClampNeg) - 1)) ((nI j24) - (nI j24) / 3 * 3) 0)) else (s24.1, (rj_pi s24.2 396 (370 + ((nI j24) - (nI j24) / 3 * 3)).toNatClampNeg ((s24.2.1 396 (370 + ((nI j24) - (nI j24) / 3 * 3)).toNatClampNeg) - 1)))))
noncomputable def qX12_pass_24 (μ : rj_M) (a0 : Int32) (j24 : Nat) (s24 : Int32 × rj_M) : Prop := (vp_in ((nI j24) - (nI j24) / 3 * 3) 3 ∧ ((((fX12_lineOf s24.2 ((nI j24) - (nI j24) / 3 * 3)) = 0) → True) ∧ ((¬ ((fX12_lineOf s24.2 ((nI j24) - (nI j24) / 3 * 3)) = 0)) → (vp_in (370 + ((nI j24) - (nI j24) / 3 * 3)) 625 ∧ vp_in (370 + ((nI j24) - (nI j24) / 3 * 3)) 625 ∧ vp_in (370 + ((nI j24) - (nI j24) / 3 * 3)) 625 ∧ (((((rj_pi s24.2 396 (370 + ((nI j24) - (nI j24) / 3 * 3)).toNatClampNeg ((s24.2.1 396 (370 + ((nI j24) - (nI j24) / 3 * 3)).toNatClampNeg) - 1)).1 396 (370 + ((nI j24) - (nI j24) / 3 * 3)).toNatClampNeg) ≤ 0) → (vp_in ((nI j24) - (nI j24) / 3 * 3) 3 ∧ qX12_takesOut (rj_pi s24.2 396 (370 + ((nI j24) - (nI j24) / 3 * 3)).toNatClampNeg ((s24.2.1 396 (370 + ((nI j24) - (nI j24) / 3 * 3)).toNatClampNeg) - 1)) ((nI j24) - (nI j24) / 3 * 3) 0 ∧ True)) ∧ ((¬ (((rj_pi s24.2 396 (370 + ((nI j24) - (nI j24) / 3 * 3)).toNatClampNeg ((s24.2.1 396 (370 + ((nI j24) - (nI j24) / 3 * 3)).toNatClampNeg) - 1)).1 396 (370 + ((nI j24) - (nI j24) / 3 * 3)).toNatClampNeg) ≤ 0)) → True))))))
set_option maxHeartbeats 4000000 in
set_option maxRecDepth 100000 in
theorem lX12_pass_24 {g : rj_G} {ω : rj_W} (hω : rj_ok ω) (μ : rj_M) (a0 : Int32)     (h1 : ((fX12_lacks μ (fX12_in μ a0 1 60)) = 0)) {F : rj_F} : ∀ (r j : Nat) (s : Int32 × rj_M), r = (a0 * 3).toInt.toNat - j → j < 2 ^ 31 → (True → ra_fo (qX12_pass_24 μ a0) (bX12_pass_24 μ a0) r j s) → (rj_R g RX12 cX12_pass 5 (some .int) wsX12_pass [] (rj_rm 2 0) F 0 ω ((rj_fo (bX12_pass_24 μ a0) r j s).2) [(0, .ref (ω.2.2 395)), (1, .int a0), (2, .int ((rj_fo (bX12_pass_24 μ a0) r j s).1))] 96 []) → rj_R g RX12 cX12_pass 5 (some .int) wsX12_pass [] (rj_rm 2 0) F 0 ω s.2 [(0, .ref (ω.2.2 395)), (1, .int a0), (2, .int s.1), (3, .int (nI j))] 24 [] := by
  intro r
  induction r with
  | zero =>
    intro j s hj hJ hq0 K
    have e0 : (a0 * 3).toInt.toNat ≤ j := by omega
    have hge : (a0 * 3) ≤ nI j := (rj_leN hJ).mpr e0
    refine rj_iload_n 3 dX12_pass_24 rfl rfl ?_
    refine rj_iload_n 1 dX12_pass_25 rfl rfl ?_
    refine rj_iconst (v := 3) dX12_pass_26 rfl (by decide) ?_
    refine rj_imul dX12_pass_27 rfl ?_
    refine rj_icmp_ge dX12_pass_28 rfl rfl (fun h5 => ?_) (fun h5 => ?_)
    · refine rj_sub (l' := [(0, .ref (ω.2.2 395)), (1, .int a0), (2, .int s.1)]) [0, 1, 2] rfl ?_
      exact K
    · exact absurd hge h5
  | succ r ih =>
    intro j24 s24 hj hJ hq0 K
    have hl24 : j24 < (a0 * 3).toInt.toNat := by omega
    have hg24 : ¬ (a0 * 3) ≤ nI j24 := fun z => absurd ((rj_leN hJ).mp z) (by omega)
    have hN := rj_tN (a0 * 3)
    have hqa := ra_fo_q (hq0 True.intro)
    unfold qX12_pass_24 at hqa
    refine rj_iload_n 3 dX12_pass_24 rfl rfl ?_
    refine rj_iload_n 1 dX12_pass_25 rfl rfl ?_
    refine rj_iconst (v := 3) dX12_pass_26 rfl (by decide) ?_
    refine rj_imul dX12_pass_27 rfl ?_
    refine rj_icmp_ge dX12_pass_28 rfl rfl (fun h2 => ?_) (fun h2 => ?_)
    · exact absurd h2 hg24
    · refine rj_iload_n 3 dX12_pass_31 rfl rfl ?_
      refine rj_iconst (v := 3) dX12_pass_32 rfl (by decide) ?_
      refine rj_irem dX12_pass_33 rfl (by decide) ?_
      refine rj_istore (l' := [(4, .int ((nI j24) - (nI j24) / 3 * 3)), (0, .ref (ω.2.2 395)), (1, .int a0), (2, .int s24.1), (3, .int (nI j24))]) dX12_pass_34 rfl (rj_bl rfl) rfl ?_
      refine rj_aload_n 1 dX12_pass_36 rfl rfl ?_
      refine rj_iload 0 dX12_pass_37 rfl rfl ?_
      refine rj_cV (rest := []) (sX12_lineOf (g := g) (ω := ω) hω s24.2 ((nI j24) - (nI j24) / 3 * 3)  (And.left hqa) ) gX12_pass_X12_lineOf (rj_lt hω (k := 395) rfl) (rj_sh hω ly_395) rfl rfl hVX12_lineOf ⟨Nat.le_of_ble_eq_true rfl, Nat.le_of_ble_eq_true rfl⟩ dX12_pass_39 rfl rfl rfl (Nat.le_of_ble_eq_true rfl) rfl (Nat.le_of_ble_eq_true rfl) rfl ?_
      refine rj_if_ne dX12_pass_42 rfl rfl (fun h3 => ?_) (fun h3 => ?_)
      · have hq2 := (And.right (And.right hqa)) h3
        refine rj_aload_n 1 dX12_pass_48 rfl rfl ?_
        refine rj_getR (C0 := RX12) (T := TX12) (N := 16) (j := 1) (r := 396) dX12_pass_49 rfl vX12_pass_12 rfl (rj_lt hω (k := 395) rfl) (rj_sh hω ly_395) (by decide) kX12_pass_9 rfl ?_
        refine rj_sipush (v := 370) dX12_pass_52 rfl (by decide) ?_
        refine rj_iload 0 dX12_pass_55 rfl rfl ?_
        refine rj_iadd dX12_pass_57 rfl ?_
        refine rj_dup2 dX12_pass_58 rfl rfl rfl ?_
        refine rj_iald dX12_pass_59 rfl (rj_lt hω (k := 396) rfl) (rj_sh hω ly_396) (And.left hq2) ?_
        refine rj_iconst (v := 1) dX12_pass_60 rfl (by decide) ?_
        refine rj_isub dX12_pass_61 rfl ?_
        refine rj_iast dX12_pass_62 rfl (rj_lt hω (k := 396) rfl) (rj_sh hω ly_396) (And.left (And.right hq2)) ?_
        refine rj_aload_n 1 dX12_pass_63 rfl rfl ?_
        refine rj_getR (C0 := RX12) (T := TX12) (N := 16) (j := 1) (r := 396) dX12_pass_64 rfl vX12_pass_12 rfl (rj_lt hω (k := 395) rfl) (rj_sh hω ly_395) (by decide) kX12_pass_9 rfl ?_
        refine rj_sipush (v := 370) dX12_pass_67 rfl (by decide) ?_
        refine rj_iload 0 dX12_pass_70 rfl rfl ?_
        refine rj_iadd dX12_pass_72 rfl ?_
        refine rj_iald dX12_pass_73 rfl (rj_lt hω (k := 396) rfl) (rj_sh hω ly_396) (And.left (And.right (And.right hq2))) ?_
        refine rj_if_le dX12_pass_74 rfl rfl (fun h4 => ?_) (fun h4 => ?_)
        · have hq3 := (And.left (And.right (And.right (And.right hq2)))) h4
          refine rj_aload_n 1 dX12_pass_80 rfl rfl ?_
          refine rj_iload 0 dX12_pass_81 rfl rfl ?_
          refine rj_iconst (v := 0) dX12_pass_83 rfl (by decide) ?_
          refine rj_cV (rest := []) (sX12_takesOut (g := g) (ω := ω) hω (rj_pi s24.2 396 (370 + ((nI j24) - (nI j24) / 3 * 3)).toNatClampNeg ((s24.2.1 396 (370 + ((nI j24) - (nI j24) / 3 * 3)).toNatClampNeg) - 1)) ((nI j24) - (nI j24) / 3 * 3) 0  (And.left hq3) (And.left (And.right hq3))) gX12_pass_X12_takesOut (rj_lt hω (k := 395) rfl) (rj_sh hω ly_395) rfl rfl hVX12_takesOut ⟨Nat.le_of_ble_eq_true rfl, Nat.le_of_ble_eq_true rfl⟩ dX12_pass_84 rfl rfl rfl (Nat.le_of_ble_eq_true rfl) rfl (Nat.le_of_ble_eq_true rfl) rfl ?_
          refine rj_iinc (v := s24.1 + 1) (l' := [(2, .int (s24.1 + 1)), (4, .int ((nI j24) - (nI j24) / 3 * 3)), (0, .ref (ω.2.2 395)), (1, .int a0), (3, .int (nI j24))]) 3 dX12_pass_87 rfl rfl rfl (rj_bl rfl) rfl ?_
          refine rj_iinc (v := nI (j24 + 1)) (l' := [(3, .int (nI (j24 + 1))), (2, .int (s24.1 + 1)), (4, .int ((nI j24) - (nI j24) / 3 * 3)), (0, .ref (ω.2.2 395)), (1, .int a0)]) 4 dX12_pass_90 rfl rfl (nI_succ j24).symm (rj_bl rfl) rfl ?_
          refine rj_goto dX12_pass_93 rfl ?_
          have e : bX12_pass_24 μ a0 j24 s24 = (s24.1 + 1, (mX12_takesOut (rj_pi s24.2 396 (370 + ((nI j24) - (nI j24) / 3 * 3)).toNatClampNeg ((s24.2.1 396 (370 + ((nI j24) - (nI j24) / 3 * 3)).toNatClampNeg) - 1)) ((nI j24) - (nI j24) / 3 * 3) 0)) := by unfold bX12_pass_24; rw [if_neg h3]; rw [if_pos h4]; try rfl
          revert e
          generalize (mX12_takesOut (rj_pi s24.2 396 (370 + ((nI j24) - (nI j24) / 3 * 3)).toNatClampNeg ((s24.2.1 396 (370 + ((nI j24) - (nI j24) / 3 * 3)).toNatClampNeg) - 1)) ((nI j24) - (nI j24) / 3 * 3) 0) = gA0
          intro e
          exact rj_sub (l' := [(0, .ref (ω.2.2 395)), (1, .int a0), (2, .int (s24.1 + 1)), (3, .int (nI (j24 + 1)))]) [3, 4, 1, 0] rfl (ih (j24 + 1) (s24.1 + 1, gA0) (by omega) (by omega) (fun _ => ra_fo_n (hq0 True.intro) e) (by rw [rj_fo_s (r := r), e] at K; exact K))
        · skip
          refine rj_goto dX12_pass_77 rfl ?_
          refine rj_iinc (v := nI (j24 + 1)) (l' := [(3, .int (nI (j24 + 1))), (4, .int ((nI j24) - (nI j24) / 3 * 3)), (0, .ref (ω.2.2 395)), (1, .int a0), (2, .int s24.1)]) 4 dX12_pass_90 rfl rfl (nI_succ j24).symm (rj_bl rfl) rfl ?_
          refine rj_goto dX12_pass_93 rfl ?_
          have e : bX12_pass_24 μ a0 j24 s24 = (s24.1, (rj_pi s24.2 396 (370 + ((nI j24) - (nI j24) / 3 * 3)).toNatClampNeg ((s24.2.1 396 (370 + ((nI j24) - (nI j24) / 3 * 3)).toNatClampNeg) - 1))) := by unfold bX12_pass_24; rw [if_neg h3]; rw [if_neg h4]; try rfl
          exact rj_sub (l' := [(0, .ref (ω.2.2 395)), (1, .int a0), (2, .int s24.1), (3, .int (nI (j24 + 1)))]) [2, 3, 4, 0] rfl (ih (j24 + 1) (s24.1, (rj_pi s24.2 396 (370 + ((nI j24) - (nI j24) / 3 * 3)).toNatClampNeg ((s24.2.1 396 (370 + ((nI j24) - (nI j24) / 3 * 3)).toNatClampNeg) - 1))) (by omega) (by omega) (fun _ => ra_fo_n (hq0 True.intro) e) (by rw [rj_fo_s (r := r), e] at K; exact K))
      · skip
        refine rj_goto dX12_pass_45 rfl ?_
        refine rj_iinc (v := nI (j24 + 1)) (l' := [(3, .int (nI (j24 + 1))), (4, .int ((nI j24) - (nI j24) / 3 * 3)), (0, .ref (ω.2.2 395)), (1, .int a0), (2, .int s24.1)]) 4 dX12_pass_90 rfl rfl (nI_succ j24).symm (rj_bl rfl) rfl ?_
        refine rj_goto dX12_pass_93 rfl ?_
        have e : bX12_pass_24 μ a0 j24 s24 = (s24.1, s24.2) := by unfold bX12_pass_24; rw [if_pos h3]; try rfl
        exact rj_sub (l' := [(0, .ref (ω.2.2 395)), (1, .int a0), (2, .int s24.1), (3, .int (nI (j24 + 1)))]) [2, 3, 4, 0] rfl (ih (j24 + 1) (s24.1, s24.2) (by omega) (by omega) (fun _ => ra_fo_n (hq0 True.intro) e) (by rw [rj_fo_s (r := r), e] at K; exact K))
set_option maxHeartbeats 4000000 in
theorem lX12_pass_24u {g : rj_G} {ω : rj_W} (hω : rj_ok ω) (μ : rj_M) (a0 : Int32)     (h1 : ((fX12_lacks μ (fX12_in μ a0 1 60)) = 0)) {F : rj_F} : ∀ (r j : Nat) (c0 : Int32) (c1 : rj_M), r = (a0 * 3).toInt.toNat - j → j < 2 ^ 31 → (True → ra_fo (qX12_pass_24 μ a0) (bX12_pass_24 μ a0) r j (c0, c1)) → (rj_R g RX12 cX12_pass 5 (some .int) wsX12_pass [] (rj_rm 2 0) F 0 ω ((rj_fo (bX12_pass_24 μ a0) r j (c0, c1)).2) [(0, .ref (ω.2.2 395)), (1, .int a0), (2, .int ((rj_fo (bX12_pass_24 μ a0) r j (c0, c1)).1))] 96 []) → rj_R g RX12 cX12_pass 5 (some .int) wsX12_pass [] (rj_rm 2 0) F 0 ω c1 [(0, .ref (ω.2.2 395)), (1, .int a0), (2, .int c0), (3, .int (nI j))] 24 [] := fun r j c0 c1 => lX12_pass_24 hω μ a0     h1 r j (c0, c1)
noncomputable def fX12_pass (μ : rj_M) (a0 : Int32) : Int32 := (if (fX12_lacks μ (fX12_in μ a0 1 60)) = 0 then (rj_fo (bX12_pass_24 μ a0) ((a0 * 3).toInt.toNat - 0) 0 (0, (mX12_keeps (mX12_lacks μ (fX12_in μ a0 1 60))))).1 else 0)
noncomputable def mX12_pass (μ : rj_M) (a0 : Int32) : rj_M := (if (fX12_lacks μ (fX12_in μ a0 1 60)) = 0 then (rj_pi ((rj_fo (bX12_pass_24 μ a0) ((a0 * 3).toInt.toNat - 0) 0 (0, (mX12_keeps (mX12_lacks μ (fX12_in μ a0 1 60))))).2) 396 (386 : Int32).toNatClampNeg ((((rj_fo (bX12_pass_24 μ a0) ((a0 * 3).toInt.toNat - 0) 0 (0, (mX12_keeps (mX12_lacks μ (fX12_in μ a0 1 60))))).2).1 396 (386 : Int32).toNatClampNeg) + ((rj_fo (bX12_pass_24 μ a0) ((a0 * 3).toInt.toNat - 0) 0 (0, (mX12_keeps (mX12_lacks μ (fX12_in μ a0 1 60))))).1))) else (mX12_lacks μ (fX12_in μ a0 1 60)))
noncomputable def qX12_pass (μ : rj_M) (a0 : Int32) : Prop := ((((fX12_lacks μ (fX12_in μ a0 1 60)) = 0) → (qX12_keeps (mX12_lacks μ (fX12_in μ a0 1 60)) ∧ ((True → ra_fo (qX12_pass_24 μ a0) (bX12_pass_24 μ a0) ((a0 * 3).toInt.toNat - 0) 0 (0, (mX12_keeps (mX12_lacks μ (fX12_in μ a0 1 60))))) ∧ True))) ∧ ((¬ ((fX12_lacks μ (fX12_in μ a0 1 60)) = 0)) → True))
set_option maxHeartbeats 40000000 in
set_option maxRecDepth 100000 in
theorem sX12_pass {g : rj_G} {ω : rj_W} (hω : rj_ok ω) (μ : rj_M) (a0 : Int32)   (hq : qX12_pass μ a0) : rj_Sp g yX12_pass wsX12_pass (rj_rm 2 0) [.ref (ω.2.2 395), .int a0] ω μ (rj_D (.inl (some (.int (fX12_pass μ a0)))) ω (mX12_pass μ a0)) := by
  have hqa := hq
  unfold qX12_pass at hqa
  refine rj_of' (cc := cX12_pass) (nL := 5) (ret := (some .int)) (own := RX12) (l0 := [(0, .ref (ω.2.2 395)), (1, .int a0)]) rfl (by decide +kernel) rfl (Nat.le_of_ble_eq_true rfl) rfl ?_
  refine rj_aload_n 0 dX12_pass_0 rfl rfl ?_
  refine rj_iload_n 1 dX12_pass_1 rfl rfl ?_
  refine rj_iconst (v := 1) dX12_pass_2 rfl (by decide) ?_
  refine rj_bipush (v := 60) dX12_pass_3 rfl (by decide) ?_
  refine rj_cS (rest := [.ref (ω.2.2 395)]) (sX12_in (g := g) (ω := ω) hω μ a0 1 60   ) gX12_pass_X12_in rfl hSX12_in ⟨Nat.le_of_ble_eq_true rfl, Nat.le_of_ble_eq_true rfl⟩ dX12_pass_5 rfl rfl rfl (Nat.le_of_ble_eq_true rfl) rfl (Nat.le_of_ble_eq_true rfl) rfl ?_
  refine rj_cV (rest := []) (sX12_lacks (g := g) (ω := ω) hω μ (fX12_in μ a0 1 60)   ) gX12_pass_X12_lacks (rj_lt hω (k := 395) rfl) (rj_sh hω ly_395) rfl rfl hVX12_lacks ⟨Nat.le_of_ble_eq_true rfl, Nat.le_of_ble_eq_true rfl⟩ dX12_pass_8 rfl rfl rfl (Nat.le_of_ble_eq_true rfl) rfl (Nat.le_of_ble_eq_true rfl) rfl ?_
  refine rj_if_eq dX12_pass_11 rfl rfl (fun h1 => ?_) (fun h1 => ?_)
  · have hq1 := (And.left hqa) h1
    refine rj_aload_n 0 dX12_pass_16 rfl rfl ?_
    refine rj_cV (rest := []) (sX12_keeps (g := g) (ω := ω) hω (mX12_lacks μ (fX12_in μ a0 1 60))   (And.left hq1)) gX12_pass_X12_keeps (rj_lt hω (k := 395) rfl) (rj_sh hω ly_395) rfl rfl hVX12_keeps ⟨Nat.le_of_ble_eq_true rfl, Nat.le_of_ble_eq_true rfl⟩ dX12_pass_17 rfl rfl rfl (Nat.le_of_ble_eq_true rfl) rfl (Nat.le_of_ble_eq_true rfl) rfl ?_
    refine rj_iconst (v := 0) dX12_pass_20 rfl (by decide) ?_
    refine rj_istore_n (l' := [(2, .int 0), (0, .ref (ω.2.2 395)), (1, .int a0)]) dX12_pass_21 rfl (rj_bl rfl) rfl ?_
    refine rj_iconst (v := 0) dX12_pass_22 rfl (by decide) ?_
    refine rj_istore_n (l' := [(3, .int 0), (2, .int 0), (0, .ref (ω.2.2 395)), (1, .int a0)]) dX12_pass_23 rfl (rj_bl rfl) rfl ?_
    refine rj_sub (l' := [(0, .ref (ω.2.2 395)), (1, .int a0), (2, .int 0), (3, .int (nI 0))]) [2, 3, 1, 0] rfl ?_
    refine lX12_pass_24u hω μ a0     h1 ((a0 * 3).toInt.toNat - 0) 0 0 (mX12_keeps (mX12_lacks μ (fX12_in μ a0 1 60))) rfl (rj_bl rfl) (And.left (And.right hq1)) ?_
    refine rj_aload_n 0 dX12_pass_96 rfl rfl ?_
    refine rj_getR (C0 := RX12) (T := TX12) (N := 16) (j := 1) (r := 396) dX12_pass_97 rfl vX12_pass_12 rfl (rj_lt hω (k := 395) rfl) (rj_sh hω ly_395) (by decide) kX12_pass_9 rfl ?_
    refine rj_sipush (v := 386) dX12_pass_100 rfl (by decide) ?_
    refine rj_dup2 dX12_pass_103 rfl rfl rfl ?_
    refine rj_iald dX12_pass_104 rfl (rj_lt hω (k := 396) rfl) (rj_sh hω ly_396) (vp_in_nI (n := 386) (rj_bl rfl) (rj_bl rfl)) ?_
    refine rj_iload_n 2 dX12_pass_105 rfl rfl ?_
    refine rj_iadd dX12_pass_106 rfl ?_
    refine rj_iast dX12_pass_107 rfl (rj_lt hω (k := 396) rfl) (rj_sh hω ly_396) (vp_in_nI (n := 386) (rj_bl rfl) (rj_bl rfl)) ?_
    refine rj_iload_n 2 dX12_pass_108 rfl rfl ?_
    exact rj_iret dX12_pass_109 rfl (Nat.le_of_ble_eq_true rfl) (Nat.le_of_ble_eq_true rfl) ⟨(by unfold fX12_pass; rw [if_pos h1]; try rfl), rfl, (by unfold mX12_pass; rw [if_pos h1]; try rfl)⟩
  · skip
    refine rj_iconst (v := 0) dX12_pass_14 rfl (by decide) ?_
    exact rj_iret dX12_pass_15 rfl (Nat.le_of_ble_eq_true rfl) (Nat.le_of_ble_eq_true rfl) ⟨(by unfold fX12_pass; rw [if_neg h1]; try rfl), rfl, (by unfold mX12_pass; rw [if_neg h1]; try rfl)⟩
theorem hSX12_line : yX12_line.cls ≠ "java/lang/invoke/MethodHandle" ∧ yX12_line.cls ≠ "java/lang/invoke/VarHandle" ∧ (parseMethodDescriptor yX12_line.desc).map (fun d => d.parameters.length) = some 1 := by decide +kernel
theorem hVX12_line : yX12_line.cls = RX12 ∧ yX12_line.cls ≠ "java/lang/invoke/MethodHandle" ∧ yX12_line.cls ≠ "java/lang/invoke/VarHandle" ∧ (parseMethodDescriptor yX12_line.desc).map (fun d => d.parameters.length) = some 1 := by decide +kernel
noncomputable def fX12_line (μ : rj_M) (a0 : Int32) : Int32 := (if (fX12_lacks μ (fX12_isBar μ a0)) = 0 then (fX12_lineOf (mX12_lacks μ (fX12_isBar μ a0)) a0) else 0)
noncomputable def mX12_line (μ : rj_M) (a0 : Int32) : rj_M := (if (fX12_lacks μ (fX12_isBar μ a0)) = 0 then (mX12_lacks μ (fX12_isBar μ a0)) else (mX12_lacks μ (fX12_isBar μ a0)))
noncomputable def qX12_line (μ : rj_M) (a0 : Int32) : Prop := ((((fX12_lacks μ (fX12_isBar μ a0)) = 0) → (vp_in a0 3 ∧ True)) ∧ ((¬ ((fX12_lacks μ (fX12_isBar μ a0)) = 0)) → True))
set_option maxHeartbeats 40000000 in
set_option maxRecDepth 100000 in
theorem sX12_line {g : rj_G} {ω : rj_W} (hω : rj_ok ω) (μ : rj_M) (a0 : Int32)   (hq : qX12_line μ a0) : rj_Sp g yX12_line wsX12_line (rj_rm 2 0) [.ref (ω.2.2 395), .int a0] ω μ (rj_D (.inl (some (.int (fX12_line μ a0)))) ω (mX12_line μ a0)) := by
  have hqa := hq
  unfold qX12_line at hqa
  refine rj_of' (cc := cX12_line) (nL := 2) (ret := (some .int)) (own := RX12) (l0 := [(0, .ref (ω.2.2 395)), (1, .int a0)]) rfl (by decide +kernel) rfl (Nat.le_of_ble_eq_true rfl) rfl ?_
  refine rj_aload_n 0 dX12_line_0 rfl rfl ?_
  refine rj_iload_n 1 dX12_line_1 rfl rfl ?_
  refine rj_cS (rest := [.ref (ω.2.2 395)]) (sX12_isBar (g := g) (ω := ω) hω μ a0   ) gX12_line_X12_isBar rfl hSX12_isBar ⟨Nat.le_of_ble_eq_true rfl, Nat.le_of_ble_eq_true rfl⟩ dX12_line_2 rfl rfl rfl (Nat.le_of_ble_eq_true rfl) rfl (Nat.le_of_ble_eq_true rfl) rfl ?_
  refine rj_cV (rest := []) (sX12_lacks (g := g) (ω := ω) hω μ (fX12_isBar μ a0)   ) gX12_line_X12_lacks (rj_lt hω (k := 395) rfl) (rj_sh hω ly_395) rfl rfl hVX12_lacks ⟨Nat.le_of_ble_eq_true rfl, Nat.le_of_ble_eq_true rfl⟩ dX12_line_5 rfl rfl rfl (Nat.le_of_ble_eq_true rfl) rfl (Nat.le_of_ble_eq_true rfl) rfl ?_
  refine rj_if_eq dX12_line_8 rfl rfl (fun h1 => ?_) (fun h1 => ?_)
  · have hq1 := (And.left hqa) h1
    refine rj_aload_n 0 dX12_line_15 rfl rfl ?_
    refine rj_iload_n 1 dX12_line_16 rfl rfl ?_
    refine rj_cV (rest := []) (sX12_lineOf (g := g) (ω := ω) hω (mX12_lacks μ (fX12_isBar μ a0)) a0  (And.left hq1) ) gX12_line_X12_lineOf (rj_lt hω (k := 395) rfl) (rj_sh hω ly_395) rfl rfl hVX12_lineOf ⟨Nat.le_of_ble_eq_true rfl, Nat.le_of_ble_eq_true rfl⟩ dX12_line_17 rfl rfl rfl (Nat.le_of_ble_eq_true rfl) rfl (Nat.le_of_ble_eq_true rfl) rfl ?_
    exact rj_iret dX12_line_20 rfl (Nat.le_of_ble_eq_true rfl) (Nat.le_of_ble_eq_true rfl) ⟨(by unfold fX12_line; rw [if_pos h1]; try rfl), rfl, (by unfold mX12_line; rw [if_pos h1]; try rfl)⟩
  · skip
    refine rj_iconst (v := 0) dX12_line_11 rfl (by decide) ?_
    refine rj_goto dX12_line_12 rfl ?_
    exact rj_iret dX12_line_20 rfl (Nat.le_of_ble_eq_true rfl) (Nat.le_of_ble_eq_true rfl) ⟨(by unfold fX12_line; rw [if_neg h1]; try rfl), rfl, (by unfold mX12_line; rw [if_neg h1]; try rfl)⟩
