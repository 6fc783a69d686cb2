theorem hSX12_triesPlans : yX12_triesPlans.cls ≠ "java/lang/invoke/MethodHandle" ∧ yX12_triesPlans.cls ≠ "java/lang/invoke/VarHandle" ∧ (parseMethodDescriptor yX12_triesPlans.desc).map (fun d => d.parameters.length) = some 2 := by decide +kernel
theorem hVX12_triesPlans : yX12_triesPlans.cls = RX12 ∧ yX12_triesPlans.cls ≠ "java/lang/invoke/MethodHandle" ∧ yX12_triesPlans.cls ≠ "java/lang/invoke/VarHandle" ∧ (parseMethodDescriptor yX12_triesPlans.desc).map (fun d => d.parameters.length) = some 2 := by decide +kernel
theorem vX12_triesPlans_12 : ∀ w ∈ u_ws RX12 TX12 16, w ∈ wsX12_triesPlans := by decide +kernel
theorem kX12_triesPlans_245 : Cond.fieldLink RX12 245 (TX12 15).1 (TX12 15).2.1 (TX12 15).2.2.1 ∈ wsX12_triesPlans := by decide +kernel
theorem kX12_triesPlans_33 : Cond.fieldLink RX12 33 (TX12 13).1 (TX12 13).2.1 (TX12 13).2.2.1 ∈ wsX12_triesPlans := by decide +kernel
theorem kX12_triesPlans_36 : Cond.fieldLink RX12 36 (TX12 14).1 (TX12 14).2.1 (TX12 14).2.2.1 ∈ wsX12_triesPlans := by decide +kernel
theorem jX12_triesPlans_58_0 : Cond.methodLink RX12 58 arraycopyName ∈ wsX12_triesPlans := by decide +kernel
theorem jX12_triesPlans_58_1 : Cond.native arraycopyName ∈ wsX12_triesPlans := by decide +kernel
theorem jX12_triesPlans_58_2 : Cond.static arraycopyName ∈ wsX12_triesPlans := by decide +kernel
theorem jX12_triesPlans_58_3 : Cond.initialized "java/lang/System" ∈ wsX12_triesPlans := by decide +kernel
noncomputable def bX12_triesPlans_57 (n : Nat) (rc : rj_M → Int32 → Int32 → rj_M) (μ : rj_M) (a0 : Int32) (a1 : Int32) (j57 : Nat) (s57 : rj_M) : rj_M := (if (fX12_canGo s57 a0 (nI j57)) = 0 then s57 else (rc (rj_pi s57 436 a0.toNatClampNeg (nI j57)) (a0 + 1) a1))
noncomputable def mX12_triesPlans : Nat → rj_M → Int32 → Int32 → rj_M
  | 0, μ, _, _ => μ
  | n + 1, μ, a0, a1 => (if a1 < (μ.1 395 15) then (if a0 = 16 then (rj_ri (rj_pi μ 395 15 a1) 437 (va_cpy ((rj_pi μ 395 15 a1).1 436) ((rj_pi μ 395 15 a1).1 437) 0 0 16)) else (if (μ.1 436 a0.toNatClampNeg) = (-1) then ((mX12_triesPlans n) μ (a0 + 1) a1) else ((mX12_triesPlans n) (rj_pi (rj_fo (bX12_triesPlans_57 n (mX12_triesPlans n) μ a0 a1) 4 0 μ) 436 a0.toNatClampNeg 4) (a0 + 1) (a1 + 1)))) else μ)
theorem mX12_triesPlans_s (n : Nat) (μ : rj_M) (a0 : Int32) (a1 : Int32) : mX12_triesPlans (n + 1) μ a0 a1 = (if a1 < (μ.1 395 15) then (if a0 = 16 then (rj_ri (rj_pi μ 395 15 a1) 437 (va_cpy ((rj_pi μ 395 15 a1).1 436) ((rj_pi μ 395 15 a1).1 437) 0 0 16)) else (if (μ.1 436 a0.toNatClampNeg) = (-1) then ((mX12_triesPlans n) μ (a0 + 1) a1) else ((mX12_triesPlans n) (rj_pi (rj_fo (bX12_triesPlans_57 n (mX12_triesPlans n) μ a0 a1) 4 0 μ) 436 a0.toNatClampNeg 4) (a0 + 1) (a1 + 1)))) else μ) := rfl
noncomputable def qX12_triesPlans_57 (n : Nat) (rc : rj_M → Int32 → Int32 → rj_M) (rcq : rj_M → Int32 → Int32 → Prop) (μ : rj_M) (a0 : Int32) (a1 : Int32) (j57 : Nat) (s57 : rj_M) : Prop := ((((fX12_canGo s57 a0 (nI j57)) = 0) → True) ∧ ((¬ ((fX12_canGo s57 a0 (nI j57)) = 0)) → (rcq (rj_pi s57 436 a0.toNatClampNeg (nI j57)) (a0 + 1) a1 ∧ True)))
noncomputable def qX12_triesPlans : Nat → rj_M → Int32 → Int32 → Prop
  | 0, _, _, _ => False
  | n + 1, μ, a0, a1 => (((a1 < (μ.1 395 15)) → (((a0 = 16) → True) ∧ ((¬ (a0 = 16)) → ((((μ.1 436 a0.toNatClampNeg) = (-1)) → ((qX12_triesPlans n) μ (a0 + 1) a1 ∧ True)) ∧ ((¬ ((μ.1 436 a0.toNatClampNeg) = (-1))) → ((True → ra_fo (qX12_triesPlans_57 n (mX12_triesPlans n) (qX12_triesPlans n) μ a0 a1) (bX12_triesPlans_57 n (mX12_triesPlans n) μ a0 a1) 4 0 μ) ∧ ((qX12_triesPlans n) (rj_pi (rj_fo (bX12_triesPlans_57 n (mX12_triesPlans n) μ a0 a1) 4 0 μ) 436 a0.toNatClampNeg 4) (a0 + 1) (a1 + 1) ∧ True))))))) ∧ ((¬ (a1 < (μ.1 395 15))) → True))
theorem qX12_triesPlans_s (n : Nat) (μ : rj_M) (a0 : Int32) (a1 : Int32) : qX12_triesPlans (n + 1) μ a0 a1 = (((a1 < (μ.1 395 15)) → (((a0 = 16) → True) ∧ ((¬ (a0 = 16)) → ((((μ.1 436 a0.toNatClampNeg) = (-1)) → ((qX12_triesPlans n) μ (a0 + 1) a1 ∧ True)) ∧ ((¬ ((μ.1 436 a0.toNatClampNeg) = (-1))) → ((True → ra_fo (qX12_triesPlans_57 n (mX12_triesPlans n) (qX12_triesPlans n) μ a0 a1) (bX12_triesPlans_57 n (mX12_triesPlans n) μ a0 a1) 4 0 μ) ∧ ((qX12_triesPlans n) (rj_pi (rj_fo (bX12_triesPlans_57 n (mX12_triesPlans n) μ a0 a1) 4 0 μ) 436 a0.toNatClampNeg 4) (a0 + 1) (a1 + 1) ∧ True))))))) ∧ ((¬ (a1 < (μ.1 395 15))) → True)) := rfl
set_option maxHeartbeats 4000000 in
set_option maxRecDepth 100000 in
theorem lX12_triesPlans_57 {g : rj_G} {ω : rj_W} (hω : rj_ok ω) (n : Nat) (rc : rj_M → Int32 → Int32 → rj_M) (rcq : rj_M → Int32 → Int32 → Prop) (μ : rj_M) (a0 : Int32) (a1 : Int32)     (hrc : ∀ (μ : rj_M) (a0 : Int32) (a1 : Int32), vp_in a0 17 → rcq μ a0 a1 → rj_Sp g yX12_triesPlans wsX12_triesPlans (rj_rm (4 + n) 0) [.ref (ω.2.2 395), .int a0, .int a1] ω μ (rj_D (.inl none) ω (rc μ a0 a1))) (hp_a0 : (vp_in a0 17)) (h1 : (a1 < (μ.1 395 15))) (h2 : ¬ (a0 = 16)) (h3 : ¬ ((μ.1 436 a0.toNatClampNeg) = (-1))) {F : rj_F} : ∀ (r j : Nat) (s : rj_M), j + r = 4 → (True → ra_fo (qX12_triesPlans_57 n rc rcq μ a0 a1) (bX12_triesPlans_57 n rc μ a0 a1) r j s) → (rj_R g RX12 cX12_triesPlans 4 none wsX12_triesPlans [] (rj_rm (4 + (n + 1)) 0) F 0 ω (rj_fo (bX12_triesPlans_57 n rc μ a0 a1) r j s) [(0, .ref (ω.2.2 395)), (1, .int a0), (2, .int a1), (3, .int (nI 4))] 95 []) → rj_R g RX12 cX12_triesPlans 4 none wsX12_triesPlans [] (rj_rm (4 + (n + 1)) 0) F 0 ω s [(0, .ref (ω.2.2 395)), (1, .int a0), (2, .int a1), (3, .int (nI j))] 57 [] := by
  intro r
  induction r with
  | zero =>
    intro j s hj hq0 K
    have e0 : j = 4 := by omega
    have hge : 4 ≤ nI j := by
      rw [e0]
      exact Int32.le_refl _
    refine rj_iload_n 3 dX12_triesPlans_57 rfl rfl ?_
    refine rj_iconst (v := 4) dX12_triesPlans_58 rfl (by decide) ?_
    refine rj_icmp_ge dX12_triesPlans_59 rfl rfl (fun h6 => ?_) (fun h6 => ?_)
    · have e1 : nI j = nI 4 := by rw [e0]
      rw [e1]
      exact K
    · exact absurd hge h6
  | succ r ih =>
    intro j57 s57 hj hq0 K
    have hl57 : j57 < 4 := by omega
    have hg57 : ¬ 4 ≤ nI j57 := nI_ge hl57 (rj_bl rfl)
    have hqa := ra_fo_q (hq0 True.intro)
    unfold qX12_triesPlans_57 at hqa
    refine rj_iload_n 3 dX12_triesPlans_57 rfl rfl ?_
    refine rj_iconst (v := 4) dX12_triesPlans_58 rfl (by decide) ?_
    refine rj_icmp_ge dX12_triesPlans_59 rfl rfl (fun h4 => ?_) (fun h4 => ?_)
    · exact absurd h4 hg57
    · refine rj_aload_n 0 dX12_triesPlans_62 rfl rfl ?_
      refine rj_iload_n 1 dX12_triesPlans_63 rfl rfl ?_
      refine rj_iload_n 3 dX12_triesPlans_64 rfl rfl ?_
      refine rj_cV (rest := []) (sX12_canGo (g := g) (ω := ω) hω s57 a0 (nI j57)  (rj_lt17 hp_a0 h2) (vp_in_nI hl57 (rj_bl rfl)) ) gX12_triesPlans_X12_canGo (rj_lt hω (k := 395) rfl) (rj_sh hω ly_395) rfl rfl hVX12_canGo ⟨by omega, by omega⟩ dX12_triesPlans_65 rfl rfl rfl (Nat.le_of_ble_eq_true rfl) rfl (Nat.le_of_ble_eq_true rfl) rfl ?_
      refine rj_if_ne dX12_triesPlans_68 rfl rfl (fun h5 => ?_) (fun h5 => ?_)
      · have hq4 := (And.right hqa) h5
        refine rj_aload_n 0 dX12_triesPlans_74 rfl rfl ?_
        refine rj_getR (C0 := RX12) (T := TX12) (N := 16) (j := 13) (r := 436) dX12_triesPlans_75 rfl vX12_triesPlans_12 rfl (rj_lt hω (k := 395) rfl) (rj_sh hω ly_395) (by decide) kX12_triesPlans_33 rfl ?_
        refine rj_iload_n 1 dX12_triesPlans_78 rfl rfl ?_
        refine rj_iload_n 3 dX12_triesPlans_79 rfl rfl ?_
        refine rj_iast dX12_triesPlans_80 rfl (rj_lt hω (k := 436) rfl) (rj_sh hω ly_436) (rj_lt17 hp_a0 h2) ?_
        refine rj_aload_n 0 dX12_triesPlans_81 rfl rfl ?_
        refine rj_iload_n 1 dX12_triesPlans_82 rfl rfl ?_
        refine rj_iconst (v := 1) dX12_triesPlans_83 rfl (by decide) ?_
        refine rj_iadd dX12_triesPlans_84 rfl ?_
        refine rj_iload_n 2 dX12_triesPlans_85 rfl rfl ?_
        refine rj_cV (rest := []) (hrc (rj_pi s57 436 a0.toNatClampNeg (nI j57)) (a0 + 1) a1 (rj_vle (rj_vadd (N := 17) (rj_lt17 hp_a0 h2) (vp_in_nI (n := 1) (N := 2) (rj_bl rfl) (rj_bl rfl)) rfl rfl) rfl) (And.left hq4)) gX12_triesPlans_X12_triesPlans (rj_lt hω (k := 395) rfl) (rj_sh hω ly_395) rfl rfl hVX12_triesPlans ⟨by omega, by omega⟩ dX12_triesPlans_86 rfl rfl rfl (Nat.le_of_ble_eq_true rfl) rfl (Nat.le_of_ble_eq_true rfl) rfl ?_
        refine rj_iinc (v := nI (j57 + 1)) (l' := [(3, .int (nI (j57 + 1))), (0, .ref (ω.2.2 395)), (1, .int a0), (2, .int a1)]) 3 dX12_triesPlans_89 rfl rfl (nI_succ j57).symm (rj_bl rfl) rfl ?_
        refine rj_goto dX12_triesPlans_92 rfl ?_
        have e : bX12_triesPlans_57 n rc μ a0 a1 j57 s57 = (rc (rj_pi s57 436 a0.toNatClampNeg (nI j57)) (a0 + 1) a1) := by unfold bX12_triesPlans_57; rw [if_neg h5]; try rfl
        exact rj_sub (l' := [(0, .ref (ω.2.2 395)), (1, .int a0), (2, .int a1), (3, .int (nI (j57 + 1)))]) [1, 2, 3, 0] rfl (ih (j57 + 1) (rc (rj_pi s57 436 a0.toNatClampNeg (nI j57)) (a0 + 1) a1) (by omega) (fun _ => ra_fo_n (hq0 True.intro) e) (by rw [rj_fo_s (r := r), e] at K; exact K))
      · skip
        refine rj_goto dX12_triesPlans_71 rfl ?_
        refine rj_iinc (v := nI (j57 + 1)) (l' := [(3, .int (nI (j57 + 1))), (0, .ref (ω.2.2 395)), (1, .int a0), (2, .int a1)]) 3 dX12_triesPlans_89 rfl rfl (nI_succ j57).symm (rj_bl rfl) rfl ?_
        refine rj_goto dX12_triesPlans_92 rfl ?_
        have e : bX12_triesPlans_57 n rc μ a0 a1 j57 s57 = s57 := by unfold bX12_triesPlans_57; rw [if_pos h5]; try rfl
        exact rj_sub (l' := [(0, .ref (ω.2.2 395)), (1, .int a0), (2, .int a1), (3, .int (nI (j57 + 1)))]) [1, 2, 3, 0] rfl (ih (j57 + 1) s57 (by omega) (fun _ => ra_fo_n (hq0 True.intro) e) (by rw [rj_fo_s (r := r), e] at K; exact K))
set_option maxHeartbeats 40000000 in
set_option maxRecDepth 100000 in
theorem sX12_triesPlans {g : rj_G} {ω : rj_W} (hω : rj_ok ω) : ∀ (n : Nat) (μ : rj_M) (a0 : Int32) (a1 : Int32), vp_in a0 17 → qX12_triesPlans n μ a0 a1 → rj_Sp g yX12_triesPlans wsX12_triesPlans (rj_rm (4 + n) 0) [.ref (ω.2.2 395), .int a0, .int a1] ω μ (rj_D (.inl none) ω (mX12_triesPlans n μ a0 a1)) := by
  intro n
  induction n with
  | zero =>
    intro μ a0 a1 hp_a0 hq
    exact hq.elim
  | succ n ih =>
    intro μ a0 a1 hp_a0 hq
    have hqa := hq
    rw [qX12_triesPlans_s] at hqa
    refine rj_of' (cc := cX12_triesPlans) (nL := 4) (ret := none) (own := RX12) (l0 := [(0, .ref (ω.2.2 395)), (1, .int a0), (2, .int a1)]) rfl (by decide +kernel) rfl (Nat.le_of_ble_eq_true rfl) rfl ?_
    refine rj_iload_n 2 dX12_triesPlans_0 rfl rfl ?_
    refine rj_aload_n 0 dX12_triesPlans_1 rfl rfl ?_
    refine rj_getI (C0 := RX12) (T := TX12) (N := 16) (j := 15) dX12_triesPlans_2 rfl vX12_triesPlans_12 rfl (rj_lt hω (k := 395) rfl) (rj_sh hω ly_395) (by decide) kX12_triesPlans_245 rfl ?_
    refine rj_icmp_lt dX12_triesPlans_5 rfl rfl (fun h1 => ?_) (fun h1 => ?_)
    · have hq1 := (And.left hqa) h1
      refine rj_iload_n 1 dX12_triesPlans_9 rfl rfl ?_
      refine rj_bipush (v := 16) dX12_triesPlans_10 rfl (by decide) ?_
      refine rj_icmp_ne dX12_triesPlans_12 rfl rfl (fun h2 => ?_) (fun h2 => ?_)
      · have hq2 := (And.right hq1) h2
        refine rj_aload_n 0 dX12_triesPlans_36 rfl rfl ?_
        refine rj_getR (C0 := RX12) (T := TX12) (N := 16) (j := 13) (r := 436) dX12_triesPlans_37 rfl vX12_triesPlans_12 rfl (rj_lt hω (k := 395) rfl) (rj_sh hω ly_395) (by decide) kX12_triesPlans_33 rfl ?_
        refine rj_iload_n 1 dX12_triesPlans_40 rfl rfl ?_
        refine rj_iald dX12_triesPlans_41 rfl (rj_lt hω (k := 436) rfl) (rj_sh hω ly_436) (rj_lt17 hp_a0 h2) ?_
        refine rj_iconst (v := (-1)) dX12_triesPlans_42 rfl (by decide) ?_
        refine rj_icmp_ne dX12_triesPlans_43 rfl rfl (fun h3 => ?_) (fun h3 => ?_)
        · have hq3 := (And.right hq2) h3
          refine rj_iconst (v := 0) dX12_triesPlans_55 rfl (by decide) ?_
          refine rj_istore_n (l' := [(3, .int 0), (0, .ref (ω.2.2 395)), (1, .int a0), (2, .int a1)]) dX12_triesPlans_56 rfl (rj_bl rfl) rfl ?_
          refine rj_sub (l' := [(0, .ref (ω.2.2 395)), (1, .int a0), (2, .int a1), (3, .int (nI 0))]) [1, 2, 3, 0] rfl ?_
          refine lX12_triesPlans_57 hω n (mX12_triesPlans n) (qX12_triesPlans n) μ a0 a1     ih hp_a0 h1 h2 h3 4 0 μ rfl (And.left hq3) ?_
          refine rj_aload_n 0 dX12_triesPlans_95 rfl rfl ?_
          refine rj_getR (C0 := RX12) (T := TX12) (N := 16) (j := 13) (r := 436) dX12_triesPlans_96 rfl vX12_triesPlans_12 rfl (rj_lt hω (k := 395) rfl) (rj_sh hω ly_395) (by decide) kX12_triesPlans_33 rfl ?_
          refine rj_iload_n 1 dX12_triesPlans_99 rfl rfl ?_
          refine rj_iconst (v := 4) dX12_triesPlans_100 rfl (by decide) ?_
          refine rj_iast dX12_triesPlans_101 rfl (rj_lt hω (k := 436) rfl) (rj_sh hω ly_436) (rj_lt17 hp_a0 h2) ?_
          refine rj_aload_n 0 dX12_triesPlans_102 rfl rfl ?_
          refine rj_iload_n 1 dX12_triesPlans_103 rfl rfl ?_
          refine rj_iconst (v := 1) dX12_triesPlans_104 rfl (by decide) ?_
          refine rj_iadd dX12_triesPlans_105 rfl ?_
          refine rj_iload_n 2 dX12_triesPlans_106 rfl rfl ?_
          refine rj_iconst (v := 1) dX12_triesPlans_107 rfl (by decide) ?_
          refine rj_iadd dX12_triesPlans_108 rfl ?_
          refine rj_cV (rest := []) (ih (rj_pi (rj_fo (bX12_triesPlans_57 n (mX12_triesPlans n) μ a0 a1) 4 0 μ) 436 a0.toNatClampNeg 4) (a0 + 1) (a1 + 1) (rj_vle (rj_vadd (N := 17) (rj_lt17 hp_a0 h2) (vp_in_nI (n := 1) (N := 2) (rj_bl rfl) (rj_bl rfl)) rfl rfl) rfl) (And.left (And.right hq3))) gX12_triesPlans_X12_triesPlans (rj_lt hω (k := 395) rfl) (rj_sh hω ly_395) rfl rfl hVX12_triesPlans ⟨by omega, by omega⟩ dX12_triesPlans_109 rfl rfl rfl (Nat.le_of_ble_eq_true rfl) rfl (Nat.le_of_ble_eq_true rfl) rfl ?_
          exact rj_vret dX12_triesPlans_112 rfl (Nat.le_of_ble_eq_true rfl) (Nat.le_of_ble_eq_true rfl) ⟨rfl, rfl, (by rw [mX12_triesPlans_s]; rw [if_pos h1]; rw [if_neg h2]; rw [if_neg h3]; try rfl)⟩
        · have hq6 := (And.left hq2) h3
          refine rj_aload_n 0 dX12_triesPlans_46 rfl rfl ?_
          refine rj_iload_n 1 dX12_triesPlans_47 rfl rfl ?_
          refine rj_iconst (v := 1) dX12_triesPlans_48 rfl (by decide) ?_
          refine rj_iadd dX12_triesPlans_49 rfl ?_
          refine rj_iload_n 2 dX12_triesPlans_50 rfl rfl ?_
          refine rj_cV (rest := []) (ih μ (a0 + 1) a1 (rj_vle (rj_vadd (N := 17) (rj_lt17 hp_a0 h2) (vp_in_nI (n := 1) (N := 2) (rj_bl rfl) (rj_bl rfl)) rfl rfl) rfl) (And.left hq6)) gX12_triesPlans_X12_triesPlans (rj_lt hω (k := 395) rfl) (rj_sh hω ly_395) rfl rfl hVX12_triesPlans ⟨by omega, by omega⟩ dX12_triesPlans_51 rfl rfl rfl (Nat.le_of_ble_eq_true rfl) rfl (Nat.le_of_ble_eq_true rfl) rfl ?_
          exact rj_vret dX12_triesPlans_54 rfl (Nat.le_of_ble_eq_true rfl) (Nat.le_of_ble_eq_true rfl) ⟨rfl, rfl, (by rw [mX12_triesPlans_s]; rw [if_pos h1]; rw [if_neg h2]; rw [if_pos h3]; try rfl)⟩
      · skip
        refine rj_aload_n 0 dX12_triesPlans_15 rfl rfl ?_
        refine rj_iload_n 2 dX12_triesPlans_16 rfl rfl ?_
        refine rj_putI (C0 := RX12) (T := TX12) (N := 16) (j := 15) dX12_triesPlans_17 rfl vX12_triesPlans_12 rfl (rj_lt hω (k := 395) rfl) (rj_sh hω ly_395) (by decide) kX12_triesPlans_245 tyX12 tyX12_ok nmX12 rfl rfl rfl rfl ?_
        refine rj_aload_n 0 dX12_triesPlans_20 rfl rfl ?_
        refine rj_getR (C0 := RX12) (T := TX12) (N := 16) (j := 13) (r := 436) dX12_triesPlans_21 rfl vX12_triesPlans_12 rfl (rj_lt hω (k := 395) rfl) (rj_sh hω ly_395) (by decide) kX12_triesPlans_33 rfl ?_
        refine rj_iconst (v := 0) dX12_triesPlans_24 rfl (by decide) ?_
        refine rj_aload_n 0 dX12_triesPlans_25 rfl rfl ?_
        refine rj_getR (C0 := RX12) (T := TX12) (N := 16) (j := 14) (r := 437) dX12_triesPlans_26 rfl vX12_triesPlans_12 rfl (rj_lt hω (k := 395) rfl) (rj_sh hω ly_395) (by decide) kX12_triesPlans_36 rfl ?_
        refine rj_iconst (v := 0) dX12_triesPlans_29 rfl (by decide) ?_
        refine rj_bipush (v := 16) dX12_triesPlans_30 rfl (by decide) ?_
        refine rj_copyi (mm := 16) dX12_triesPlans_32 rfl jX12_triesPlans_58_0 jX12_triesPlans_58_1 jX12_triesPlans_58_2 jX12_triesPlans_58_3 (rj_lt hω (k := 436) rfl) (rj_sh hω ly_436) (rj_lt hω (k := 437) rfl) (rj_sh hω ly_437) (Nat.le_of_ble_eq_true rfl) (Nat.le_of_ble_eq_true rfl) (rj_bl rfl) (Nat.le_of_ble_eq_true rfl) (Nat.le_trans (m := 64 * 4) (by decide) (Nat.mul_le_mul_left 64 (Nat.le_add_right 4 _))) ?_
        exact rj_vret dX12_triesPlans_35 rfl (Nat.le_of_ble_eq_true rfl) (Nat.le_of_ble_eq_true rfl) ⟨rfl, rfl, (by rw [mX12_triesPlans_s]; rw [if_pos h1]; rw [if_pos h2]; try rfl)⟩
    · skip
      exact rj_vret dX12_triesPlans_8 rfl (Nat.le_of_ble_eq_true rfl) (Nat.le_of_ble_eq_true rfl) ⟨rfl, rfl, (by rw [mX12_triesPlans_s]; rw [if_neg h1]; try rfl)⟩
theorem sX12_triesPlansF {g : rj_G} {ω : rj_W} (hω : rj_ok ω) (μ : rj_M) (a0 : Int32) (a1 : Int32) (hp_a0 : vp_in a0 17) (hq : qX12_triesPlans rz17 μ a0 a1) : rj_Sp g yX12_triesPlans wsX12_triesPlans (rj_rm 21 0) [.ref (ω.2.2 395), .int a0, .int a1] ω μ (rj_D (.inl none) ω (mX12_triesPlans rz17 μ a0 a1)) := by
  have h := sX12_triesPlans (g := g) (ω := ω) hω rz17 μ a0 a1 hp_a0 hq
  rw [show 4 + rz17 = 21 from by rw [rz17_eq]] at h
  exact h
theorem hSX12_rain : yX12_rain.cls ≠ "java/lang/invoke/MethodHandle" ∧ yX12_rain.cls ≠ "java/lang/invoke/VarHandle" ∧ (parseMethodDescriptor yX12_rain.desc).map (fun d => d.parameters.length) = some 2 := by decide +kernel
theorem hVX12_rain : yX12_rain.cls = RX12 ∧ yX12_rain.cls ≠ "java/lang/invoke/MethodHandle" ∧ yX12_rain.cls ≠ "java/lang/invoke/VarHandle" ∧ (parseMethodDescriptor yX12_rain.desc).map (fun d => d.parameters.length) = some 2 := by decide +kernel
theorem vX12_rain_12 : ∀ w ∈ u_ws RX12 TX12 16, w ∈ wsX12_rain := by decide +kernel
theorem kX12_rain_33 : Cond.fieldLink RX12 33 (TX12 13).1 (TX12 13).2.1 (TX12 13).2.2.1 ∈ wsX12_rain := by decide +kernel
theorem kX12_rain_245 : Cond.fieldLink RX12 245 (TX12 15).1 (TX12 15).2.1 (TX12 15).2.2.1 ∈ wsX12_rain := by decide +kernel
theorem kX12_rain_36 : Cond.fieldLink RX12 36 (TX12 14).1 (TX12 14).2.1 (TX12 14).2.2.1 ∈ wsX12_rain := by decide +kernel
theorem kX12_rain_30 : Cond.fieldLink RX12 30 (TX12 12).1 (TX12 12).2.1 (TX12 12).2.2.1 ∈ wsX12_rain := by decide +kernel
theorem jX12_rain_58_0 : Cond.methodLink RX12 58 arraycopyName ∈ wsX12_rain := by decide +kernel
theorem jX12_rain_58_1 : Cond.native arraycopyName ∈ wsX12_rain := by decide +kernel
theorem jX12_rain_58_2 : Cond.static arraycopyName ∈ wsX12_rain := by decide +kernel
theorem jX12_rain_58_3 : Cond.initialized "java/lang/System" ∈ wsX12_rain := by decide +kernel
theorem kX12_rain_64 : Cond.fieldLink RX12 64 (TX12 11).1 (TX12 11).2.1 (TX12 11).2.2.1 ∈ wsX12_rain := by decide +kernel
noncomputable def bX12_rain_43 (μ : rj_M) (a0 : Int32) (a1 : Int32) (j43 : Nat) (s43 : Int32) : Int32 := (if (fX12_isMet (mX12_lacksT μ) (nI j43) a0 a1) = 0 then (s43 + 0) else (s43 + 1))
noncomputable def qX12_rain_43 (μ : rj_M) (a0 : Int32) (a1 : Int32) (j43 : Nat) (s43 : Int32) : Prop := (qX12_isMet (mX12_lacksT μ) (nI j43) a0 a1 ∧ True)
set_option maxHeartbeats 4000000 in
set_option maxRecDepth 100000 in
theorem lX12_rain_43 {g : rj_G} {ω : rj_W} (hω : rj_ok ω) (μ : rj_M) (a0 : Int32) (a1 : Int32)     (h1 : ¬ ((fX12_in μ a0 0 5759) = 0)) (h3 : ¬ ((fX12_in μ a1 (a0 + 1) 5760) = 0)) {F : rj_F} : ∀ (r j : Nat) (s : Int32), j + r = 16 → (True → ra_fo (qX12_rain_43 μ a0 a1) (bX12_rain_43 μ a0 a1) r j s) → (rj_R g RX12 cX12_rain 5 (some .int) wsX12_rain [] (rj_rm 22 0) F 0 ω (mX12_lacksT μ) [(0, .ref (ω.2.2 395)), (1, .int a0), (2, .int a1), (3, .int (rj_fo (bX12_rain_43 μ a0 a1) r j s)), (4, .int (nI 16))] 75 []) → rj_R g RX12 cX12_rain 5 (some .int) wsX12_rain [] (rj_rm 22 0) F 0 ω (mX12_lacksT μ) [(0, .ref (ω.2.2 395)), (1, .int a0), (2, .int a1), (3, .int s), (4, .int (nI j))] 43 [] := by
  intro r
  induction r with
  | zero =>
    intro j s hj hq0 K
    have e0 : j = 16 := by omega
    have hge : 16 ≤ nI j := by
      rw [e0]
      exact Int32.le_refl _
    refine rj_iload 4 dX12_rain_43 rfl rfl ?_
    refine rj_bipush (v := 16) dX12_rain_45 rfl (by decide) ?_
    refine rj_icmp_ge dX12_rain_47 rfl rfl (fun h8 => ?_) (fun h8 => ?_)
    · have e1 : nI j = nI 16 := by rw [e0]
      rw [e1]
      exact K
    · exact absurd hge h8
  | succ r ih =>
    intro j43 s43 hj hq0 K
    have hl43 : j43 < 16 := by omega
    have hg43 : ¬ 16 ≤ nI j43 := nI_ge hl43 (rj_bl rfl)
    have hqa := ra_fo_q (hq0 True.intro)
    unfold qX12_rain_43 at hqa
    refine rj_iload 4 dX12_rain_43 rfl rfl ?_
    refine rj_bipush (v := 16) dX12_rain_45 rfl (by decide) ?_
    refine rj_icmp_ge dX12_rain_47 rfl rfl (fun h6 => ?_) (fun h6 => ?_)
    · exact absurd h6 hg43
    · refine rj_iload_n 3 dX12_rain_50 rfl rfl ?_
      refine rj_aload_n 0 dX12_rain_51 rfl rfl ?_
      refine rj_iload 4 dX12_rain_52 rfl rfl ?_
      refine rj_iload_n 1 dX12_rain_54 rfl rfl ?_
      refine rj_iload_n 2 dX12_rain_55 rfl rfl ?_
      refine rj_cV (rest := [.int s43]) (sX12_isMet (g := g) (ω := ω) hω (mX12_lacksT μ) (nI j43) a0 a1   (And.left hqa)) gX12_rain_X12_isMet (rj_lt hω (k := 395) rfl) (rj_sh hω ly_395) rfl rfl hVX12_isMet ⟨Nat.le_of_ble_eq_true rfl, Nat.le_of_ble_eq_true rfl⟩ dX12_rain_56 rfl rfl rfl (Nat.le_of_ble_eq_true rfl) rfl (Nat.le_of_ble_eq_true rfl) rfl ?_
      refine rj_if_eq dX12_rain_59 rfl rfl (fun h7 => ?_) (fun h7 => ?_)
      · skip
        refine rj_iconst (v := 0) dX12_rain_66 rfl (by decide) ?_
        refine rj_iadd dX12_rain_67 rfl ?_
        refine rj_istore_n (l' := [(3, .int (s43 + 0)), (0, .ref (ω.2.2 395)), (1, .int a0), (2, .int a1), (4, .int (nI j43))]) dX12_rain_68 rfl (rj_bl rfl) rfl ?_
        refine rj_iinc (v := nI (j43 + 1)) (l' := [(4, .int (nI (j43 + 1))), (3, .int (s43 + 0)), (0, .ref (ω.2.2 395)), (1, .int a0), (2, .int a1)]) 4 dX12_rain_69 rfl rfl (nI_succ j43).symm (rj_bl rfl) rfl ?_
        refine rj_goto dX12_rain_72 rfl ?_
        have e : bX12_rain_43 μ a0 a1 j43 s43 = (s43 + 0) := by unfold bX12_rain_43; rw [if_pos h7]; try rfl
        exact rj_sub (l' := [(0, .ref (ω.2.2 395)), (1, .int a0), (2, .int a1), (3, .int (s43 + 0)), (4, .int (nI (j43 + 1)))]) [2, 3, 4, 1, 0] rfl (ih (j43 + 1) (s43 + 0) (by omega) (fun _ => ra_fo_n (hq0 True.intro) e) (by rw [rj_fo_s (r := r), e] at K; exact K))
      · skip
        refine rj_iconst (v := 1) dX12_rain_62 rfl (by decide) ?_
        refine rj_goto dX12_rain_63 rfl ?_
        refine rj_iadd dX12_rain_67 rfl ?_
        refine rj_istore_n (l' := [(3, .int (s43 + 1)), (0, .ref (ω.2.2 395)), (1, .int a0), (2, .int a1), (4, .int (nI j43))]) dX12_rain_68 rfl (rj_bl rfl) rfl ?_
        refine rj_iinc (v := nI (j43 + 1)) (l' := [(4, .int (nI (j43 + 1))), (3, .int (s43 + 1)), (0, .ref (ω.2.2 395)), (1, .int a0), (2, .int a1)]) 4 dX12_rain_69 rfl rfl (nI_succ j43).symm (rj_bl rfl) rfl ?_
        refine rj_goto dX12_rain_72 rfl ?_
        have e : bX12_rain_43 μ a0 a1 j43 s43 = (s43 + 1) := by unfold bX12_rain_43; rw [if_neg h7]; try rfl
        exact rj_sub (l' := [(0, .ref (ω.2.2 395)), (1, .int a0), (2, .int a1), (3, .int (s43 + 1)), (4, .int (nI (j43 + 1)))]) [2, 3, 4, 1, 0] rfl (ih (j43 + 1) (s43 + 1) (by omega) (fun _ => ra_fo_n (hq0 True.intro) e) (by rw [rj_fo_s (r := r), e] at K; exact K))
noncomputable def bX12_rain_99 (μ : rj_M) (a0 : Int32) (a1 : Int32) (j99 : Nat) (s99 : rj_M) : rj_M := (if (fX12_isMet s99 (nI j99) a0 a1) = 0 then (rj_pi s99 436 (nI j99).toNatClampNeg (-1)) else (rj_pi s99 436 (nI j99).toNatClampNeg 4))
noncomputable def qX12_rain_99 (μ : rj_M) (a0 : Int32) (a1 : Int32) (j99 : Nat) (s99 : rj_M) : Prop := (qX12_isMet s99 (nI j99) a0 a1 ∧ True)
set_option maxHeartbeats 4000000 in
set_option maxRecDepth 100000 in
theorem lX12_rain_99 {g : rj_G} {ω : rj_W} (hω : rj_ok ω) (μ : rj_M) (a0 : Int32) (a1 : Int32)     (h1 : ¬ ((fX12_in μ a0 0 5759) = 0)) (h3 : ¬ ((fX12_in μ a1 (a0 + 1) 5760) = 0)) (h9 : ¬ (6 < (rj_fo (bX12_rain_43 μ a0 a1) 16 0 0))) {F : rj_F} : ∀ (r j : Nat) (s : rj_M), j + r = 16 → (True → ra_fo (qX12_rain_99 μ a0 a1) (bX12_rain_99 μ a0 a1) r j s) → (rj_R g RX12 cX12_rain 5 (some .int) wsX12_rain [] (rj_rm 22 0) F 0 ω (rj_fo (bX12_rain_99 μ a0 a1) r j s) [(0, .ref (ω.2.2 395)), (1, .int a0), (2, .int a1), (3, .int (rj_fo (bX12_rain_43 μ a0 a1) 16 0 0)), (4, .int (nI 16))] 135 []) → rj_R g RX12 cX12_rain 5 (some .int) wsX12_rain [] (rj_rm 22 0) F 0 ω s [(0, .ref (ω.2.2 395)), (1, .int a0), (2, .int a1), (3, .int (rj_fo (bX12_rain_43 μ a0 a1) 16 0 0)), (4, .int (nI j))] 99 [] := by
  intro r
  induction r with
  | zero =>
    intro j s hj hq0 K
    have e0 : j = 16 := by omega
    have hge : 16 ≤ nI j := by
      rw [e0]
      exact Int32.le_refl _
    refine rj_iload 4 dX12_rain_99 rfl rfl ?_
    refine rj_bipush (v := 16) dX12_rain_101 rfl (by decide) ?_
    refine rj_icmp_ge dX12_rain_103 rfl rfl (fun h14 => ?_) (fun h14 => ?_)
    · have e1 : nI j = nI 16 := by rw [e0]
      rw [e1]
      exact K
    · exact absurd hge h14
  | succ r ih =>
    intro j99 s99 hj hq0 K
    have hl99 : j99 < 16 := by omega
    have hg99 : ¬ 16 ≤ nI j99 := nI_ge hl99 (rj_bl rfl)
    have hqa := ra_fo_q (hq0 True.intro)
    unfold qX12_rain_99 at hqa
    refine rj_iload 4 dX12_rain_99 rfl rfl ?_
    refine rj_bipush (v := 16) dX12_rain_101 rfl (by decide) ?_
    refine rj_icmp_ge dX12_rain_103 rfl rfl (fun h12 => ?_) (fun h12 => ?_)
    · exact absurd h12 hg99
    · refine rj_aload_n 0 dX12_rain_106 rfl rfl ?_
      refine rj_getR (C0 := RX12) (T := TX12) (N := 16) (j := 13) (r := 436) dX12_rain_107 rfl vX12_rain_12 rfl (rj_lt hω (k := 395) rfl) (rj_sh hω ly_395) (by decide) kX12_rain_33 rfl ?_
      refine rj_iload 4 dX12_rain_110 rfl rfl ?_
      refine rj_aload_n 0 dX12_rain_112 rfl rfl ?_
      refine rj_iload 4 dX12_rain_113 rfl rfl ?_
      refine rj_iload_n 1 dX12_rain_115 rfl rfl ?_
      refine rj_iload_n 2 dX12_rain_116 rfl rfl ?_
      refine rj_cV (rest := [.int (nI j99), .ref (ω.2.2 436)]) (sX12_isMet (g := g) (ω := ω) hω s99 (nI j99) a0 a1   (And.left hqa)) gX12_rain_X12_isMet (rj_lt hω (k := 395) rfl) (rj_sh hω ly_395) rfl rfl hVX12_isMet ⟨Nat.le_of_ble_eq_true rfl, Nat.le_of_ble_eq_true rfl⟩ dX12_rain_117 rfl rfl rfl (Nat.le_of_ble_eq_true rfl) rfl (Nat.le_of_ble_eq_true rfl) rfl ?_
      refine rj_if_eq dX12_rain_120 rfl rfl (fun h13 => ?_) (fun h13 => ?_)
      · skip
        refine rj_iconst (v := (-1)) dX12_rain_127 rfl (by decide) ?_
        refine rj_iast dX12_rain_128 rfl (rj_lt hω (k := 436) rfl) (rj_sh hω ly_436) (vp_in_nI hl99 (rj_bl rfl)) ?_
        refine rj_iinc (v := nI (j99 + 1)) (l' := [(4, .int (nI (j99 + 1))), (0, .ref (ω.2.2 395)), (1, .int a0), (2, .int a1), (3, .int (rj_fo (bX12_rain_43 μ a0 a1) 16 0 0))]) 4 dX12_rain_129 rfl rfl (nI_succ j99).symm (rj_bl rfl) rfl ?_
        refine rj_goto dX12_rain_132 rfl ?_
        have e : bX12_rain_99 μ a0 a1 j99 s99 = (rj_pi s99 436 (nI j99).toNatClampNeg (-1)) := by unfold bX12_rain_99; rw [if_pos h13]; try rfl
        exact rj_sub (l' := [(0, .ref (ω.2.2 395)), (1, .int a0), (2, .int a1), (3, .int (rj_fo (bX12_rain_43 μ a0 a1) 16 0 0)), (4, .int (nI (j99 + 1)))]) [1, 2, 3, 4, 0] rfl (ih (j99 + 1) (rj_pi s99 436 (nI j99).toNatClampNeg (-1)) (by omega) (fun _ => ra_fo_n (hq0 True.intro) e) (by rw [rj_fo_s (r := r), e] at K; exact K))
      · skip
        refine rj_iconst (v := 4) dX12_rain_123 rfl (by decide) ?_
        refine rj_goto dX12_rain_124 rfl ?_
        refine rj_iast dX12_rain_128 rfl (rj_lt hω (k := 436) rfl) (rj_sh hω ly_436) (vp_in_nI hl99 (rj_bl rfl)) ?_
        refine rj_iinc (v := nI (j99 + 1)) (l' := [(4, .int (nI (j99 + 1))), (0, .ref (ω.2.2 395)), (1, .int a0), (2, .int a1), (3, .int (rj_fo (bX12_rain_43 μ a0 a1) 16 0 0))]) 4 dX12_rain_129 rfl rfl (nI_succ j99).symm (rj_bl rfl) rfl ?_
        refine rj_goto dX12_rain_132 rfl ?_
        have e : bX12_rain_99 μ a0 a1 j99 s99 = (rj_pi s99 436 (nI j99).toNatClampNeg 4) := by unfold bX12_rain_99; rw [if_neg h13]; try rfl
        exact rj_sub (l' := [(0, .ref (ω.2.2 395)), (1, .int a0), (2, .int a1), (3, .int (rj_fo (bX12_rain_43 μ a0 a1) 16 0 0)), (4, .int (nI (j99 + 1)))]) [1, 2, 3, 4, 0] rfl (ih (j99 + 1) (rj_pi s99 436 (nI j99).toNatClampNeg 4) (by omega) (fun _ => ra_fo_n (hq0 True.intro) e) (by rw [rj_fo_s (r := r), e] at K; exact K))
noncomputable def fX12_rain (μ : rj_M) (a0 : Int32) (a1 : Int32) : Int32 := (if (fX12_in μ a0 0 5759) = 0 then 0 else (if (fX12_in μ a1 (a0 + 1) 5760) = 0 then 0 else (if 6 < (rj_fo (bX12_rain_43 μ a0 a1) 16 0 0) then 0 else ((rj_pi (rj_ri (mX12_triesPlans rz17 (rj_pi (rj_fo (bX12_rain_99 μ a0 a1) 16 0 (mX12_lacksT μ)) 395 15 ((rj_fo (bX12_rain_43 μ a0 a1) 16 0 0) + 1)) 0 0) 435 (va_cpy ((mX12_triesPlans rz17 (rj_pi (rj_fo (bX12_rain_99 μ a0 a1) 16 0 (mX12_lacksT μ)) 395 15 ((rj_fo (bX12_rain_43 μ a0 a1) 16 0 0) + 1)) 0 0).1 437) ((mX12_triesPlans rz17 (rj_pi (rj_fo (bX12_rain_99 μ a0 a1) 16 0 (mX12_lacksT μ)) 395 15 ((rj_fo (bX12_rain_43 μ a0 a1) 16 0 0) + 1)) 0 0).1 435) 0 0 16)) 395 11 1).1 395 15))))
noncomputable def mX12_rain (μ : rj_M) (a0 : Int32) (a1 : Int32) : rj_M := (if (fX12_in μ a0 0 5759) = 0 then (mX12_lacksF μ) else (if (fX12_in μ a1 (a0 + 1) 5760) = 0 then (mX12_lacksF μ) else (if 6 < (rj_fo (bX12_rain_43 μ a0 a1) 16 0 0) then (mX12_noF (mX12_lacksT μ) 2) else (rj_pi (rj_ri (mX12_triesPlans rz17 (rj_pi (rj_fo (bX12_rain_99 μ a0 a1) 16 0 (mX12_lacksT μ)) 395 15 ((rj_fo (bX12_rain_43 μ a0 a1) 16 0 0) + 1)) 0 0) 435 (va_cpy ((mX12_triesPlans rz17 (rj_pi (rj_fo (bX12_rain_99 μ a0 a1) 16 0 (mX12_lacksT μ)) 395 15 ((rj_fo (bX12_rain_43 μ a0 a1) 16 0 0) + 1)) 0 0).1 437) ((mX12_triesPlans rz17 (rj_pi (rj_fo (bX12_rain_99 μ a0 a1) 16 0 (mX12_lacksT μ)) 395 15 ((rj_fo (bX12_rain_43 μ a0 a1) 16 0 0) + 1)) 0 0).1 435) 0 0 16)) 395 11 1))))
noncomputable def qX12_rain (μ : rj_M) (a0 : Int32) (a1 : Int32) : Prop := ((((fX12_in μ a0 0 5759) = 0) → True) ∧ ((¬ ((fX12_in μ a0 0 5759) = 0)) → ((((fX12_in μ a1 (a0 + 1) 5760) = 0) → True) ∧ ((¬ ((fX12_in μ a1 (a0 + 1) 5760) = 0)) → ((True → ra_fo (qX12_rain_43 μ a0 a1) (bX12_rain_43 μ a0 a1) 16 0 0) ∧ (((6 < (rj_fo (bX12_rain_43 μ a0 a1) 16 0 0)) → True) ∧ ((¬ (6 < (rj_fo (bX12_rain_43 μ a0 a1) 16 0 0))) → ((True → ra_fo (qX12_rain_99 μ a0 a1) (bX12_rain_99 μ a0 a1) 16 0 (mX12_lacksT μ)) ∧ (qX12_triesPlans rz17 (rj_pi (rj_fo (bX12_rain_99 μ a0 a1) 16 0 (mX12_lacksT μ)) 395 15 ((rj_fo (bX12_rain_43 μ a0 a1) 16 0 0) + 1)) 0 0 ∧ True)))))))))
set_option maxHeartbeats 40000000 in
set_option maxRecDepth 100000 in
theorem sX12_rain {g : rj_G} {ω : rj_W} (hω : rj_ok ω) (μ : rj_M) (a0 : Int32) (a1 : Int32)   (hq : qX12_rain μ a0 a1) : rj_Sp g yX12_rain wsX12_rain (rj_rm 22 0) [.ref (ω.2.2 395), .int a0, .int a1] ω μ (rj_D (.inl (some (.int (fX12_rain μ a0 a1)))) ω (mX12_rain μ a0 a1)) := by
  have hqa := hq
  unfold qX12_rain at hqa
  refine rj_of' (cc := cX12_rain) (nL := 5) (ret := (some .int)) (own := RX12) (l0 := [(0, .ref (ω.2.2 395)), (1, .int a0), (2, .int a1)]) rfl (by decide +kernel) rfl (Nat.le_of_ble_eq_true rfl) rfl ?_
  refine rj_aload_n 0 dX12_rain_0 rfl rfl ?_
  refine rj_iload_n 1 dX12_rain_1 rfl rfl ?_
  refine rj_iconst (v := 0) dX12_rain_2 rfl (by decide) ?_
  refine rj_sipush (v := 5759) dX12_rain_3 rfl (by decide) ?_
  refine rj_cS (rest := [.ref (ω.2.2 395)]) (sX12_in (g := g) (ω := ω) hω μ a0 0 5759   ) gX12_rain_X12_in rfl hSX12_in ⟨Nat.le_of_ble_eq_true rfl, Nat.le_of_ble_eq_true rfl⟩ dX12_rain_6 rfl rfl rfl (Nat.le_of_ble_eq_true rfl) rfl (Nat.le_of_ble_eq_true rfl) rfl ?_
  refine rj_if_eq dX12_rain_9 rfl rfl (fun h1 => ?_) (fun h1 => ?_)
  · skip
    refine rj_iconst (v := 0) dX12_rain_29 rfl (by decide) ?_
    refine rj_cV (rest := []) (sX12_lacksF (g := g) (ω := ω) hω μ   ) gX12_rain_X12_lacks (rj_lt hω (k := 395) rfl) (rj_sh hω ly_395) rfl rfl hVX12_lacks ⟨Nat.le_of_ble_eq_true rfl, Nat.le_of_ble_eq_true rfl⟩ dX12_rain_30 rfl rfl rfl (Nat.le_of_ble_eq_true rfl) rfl (Nat.le_of_ble_eq_true rfl) rfl ?_
    refine rj_if_eq dX12_rain_33 rfl rfl (fun h2 => ?_) (fun h2 => ?_)
    · exact absurd h2 (by decide)
    · refine rj_iconst (v := 0) dX12_rain_36 rfl (by decide) ?_
      exact rj_iret dX12_rain_37 rfl (Nat.le_of_ble_eq_true rfl) (Nat.le_of_ble_eq_true rfl) ⟨(by unfold fX12_rain; rw [if_pos h1]; try rfl), rfl, (by unfold mX12_rain; rw [if_pos h1]; try rfl)⟩
  · have hq2 := (And.right hqa) h1
    refine rj_iload_n 2 dX12_rain_12 rfl rfl ?_
    refine rj_iload_n 1 dX12_rain_13 rfl rfl ?_
    refine rj_iconst (v := 1) dX12_rain_14 rfl (by decide) ?_
    refine rj_iadd dX12_rain_15 rfl ?_
    refine rj_sipush (v := 5760) dX12_rain_16 rfl (by decide) ?_
    refine rj_cS (rest := [.ref (ω.2.2 395)]) (sX12_in (g := g) (ω := ω) hω μ a1 (a0 + 1) 5760   ) gX12_rain_X12_in rfl hSX12_in ⟨Nat.le_of_ble_eq_true rfl, Nat.le_of_ble_eq_true rfl⟩ dX12_rain_19 rfl rfl rfl (Nat.le_of_ble_eq_true rfl) rfl (Nat.le_of_ble_eq_true rfl) rfl ?_
    refine rj_if_eq dX12_rain_22 rfl rfl (fun h3 => ?_) (fun h3 => ?_)
    · skip
      refine rj_iconst (v := 0) dX12_rain_29 rfl (by decide) ?_
      refine rj_cV (rest := []) (sX12_lacksF (g := g) (ω := ω) hω μ   ) gX12_rain_X12_lacks (rj_lt hω (k := 395) rfl) (rj_sh hω ly_395) rfl rfl hVX12_lacks ⟨Nat.le_of_ble_eq_true rfl, Nat.le_of_ble_eq_true rfl⟩ dX12_rain_30 rfl rfl rfl (Nat.le_of_ble_eq_true rfl) rfl (Nat.le_of_ble_eq_true rfl) rfl ?_
      refine rj_if_eq dX12_rain_33 rfl rfl (fun h4 => ?_) (fun h4 => ?_)
      · exact absurd h4 (by decide)
      · refine rj_iconst (v := 0) dX12_rain_36 rfl (by decide) ?_
        exact rj_iret dX12_rain_37 rfl (Nat.le_of_ble_eq_true rfl) (Nat.le_of_ble_eq_true rfl) ⟨(by unfold fX12_rain; rw [if_neg h1]; rw [if_pos h3]; try rfl), rfl, (by unfold mX12_rain; rw [if_neg h1]; rw [if_pos h3]; try rfl)⟩
    · have hq4 := (And.right hq2) h3
      refine rj_iconst (v := 1) dX12_rain_25 rfl (by decide) ?_
      refine rj_goto dX12_rain_26 rfl ?_
      refine rj_cV (rest := []) (sX12_lacksT (g := g) (ω := ω) hω μ   ) gX12_rain_X12_lacks (rj_lt hω (k := 395) rfl) (rj_sh hω ly_395) rfl rfl hVX12_lacks ⟨Nat.le_of_ble_eq_true rfl, Nat.le_of_ble_eq_true rfl⟩ dX12_rain_30 rfl rfl rfl (Nat.le_of_ble_eq_true rfl) rfl (Nat.le_of_ble_eq_true rfl) rfl ?_
      refine rj_if_eq dX12_rain_33 rfl rfl (fun h5 => ?_) (fun h5 => ?_)
      · refine rj_iconst (v := 0) dX12_rain_38 rfl (by decide) ?_
        refine rj_istore_n (l' := [(3, .int 0), (0, .ref (ω.2.2 395)), (1, .int a0), (2, .int a1)]) dX12_rain_39 rfl (rj_bl rfl) rfl ?_
        refine rj_iconst (v := 0) dX12_rain_40 rfl (by decide) ?_
        refine rj_istore (l' := [(4, .int 0), (3, .int 0), (0, .ref (ω.2.2 395)), (1, .int a0), (2, .int a1)]) dX12_rain_41 rfl (rj_bl rfl) rfl ?_
        refine rj_sub (l' := [(0, .ref (ω.2.2 395)), (1, .int a0), (2, .int a1), (3, .int 0), (4, .int (nI 0))]) [2, 3, 4, 1, 0] rfl ?_
        refine lX12_rain_43 hω μ a0 a1     h1 h3 16 0 0 rfl (And.left hq4) ?_
        refine rj_aload_n 0 dX12_rain_75 rfl rfl ?_
        refine rj_iload_n 3 dX12_rain_76 rfl rfl ?_
        refine rj_bipush (v := 6) dX12_rain_77 rfl (by decide) ?_
        refine rj_icmp_gt dX12_rain_79 rfl rfl (fun h9 => ?_) (fun h9 => ?_)
        · skip
          refine rj_iconst (v := 0) dX12_rain_86 rfl (by decide) ?_
          refine rj_iconst (v := 2) dX12_rain_87 rfl (by decide) ?_
          refine rj_cV (rest := []) (sX12_noF (g := g) (ω := ω) hω (mX12_lacksT μ) 2   ) gX12_rain_X12_no (rj_lt hω (k := 395) rfl) (rj_sh hω ly_395) rfl rfl hVX12_no ⟨Nat.le_of_ble_eq_true rfl, Nat.le_of_ble_eq_true rfl⟩ dX12_rain_88 rfl rfl rfl (Nat.le_of_ble_eq_true rfl) rfl (Nat.le_of_ble_eq_true rfl) rfl ?_
          refine rj_if_eq dX12_rain_91 rfl rfl (fun h10 => ?_) (fun h10 => ?_)
          · exact absurd h10 (by decide)
          · refine rj_iconst (v := 0) dX12_rain_94 rfl (by decide) ?_
            exact rj_iret dX12_rain_95 rfl (Nat.le_of_ble_eq_true rfl) (Nat.le_of_ble_eq_true rfl) ⟨(by unfold fX12_rain; rw [if_neg h1]; rw [if_neg h3]; rw [if_pos h9]; try rfl), rfl, (by unfold mX12_rain; rw [if_neg h1]; rw [if_neg h3]; rw [if_pos h9]; try rfl)⟩
        · have hq8 := (And.right (And.right hq4)) h9
          refine rj_iconst (v := 1) dX12_rain_82 rfl (by decide) ?_
          refine rj_goto dX12_rain_83 rfl ?_
          refine rj_iconst (v := 2) dX12_rain_87 rfl (by decide) ?_
          refine rj_cV (rest := []) (sX12_noT (g := g) (ω := ω) hω (mX12_lacksT μ) 2   ) gX12_rain_X12_no (rj_lt hω (k := 395) rfl) (rj_sh hω ly_395) rfl rfl hVX12_no ⟨Nat.le_of_ble_eq_true rfl, Nat.le_of_ble_eq_true rfl⟩ dX12_rain_88 rfl rfl rfl (Nat.le_of_ble_eq_true rfl) rfl (Nat.le_of_ble_eq_true rfl) rfl ?_
          refine rj_if_eq dX12_rain_91 rfl rfl (fun h11 => ?_) (fun h11 => ?_)
          · refine rj_iconst (v := 0) dX12_rain_96 rfl (by decide) ?_
            refine rj_istore (l' := [(4, .int 0), (0, .ref (ω.2.2 395)), (1, .int a0), (2, .int a1), (3, .int (rj_fo (bX12_rain_43 μ a0 a1) 16 0 0))]) dX12_rain_97 rfl (rj_bl rfl) rfl ?_
            refine rj_sub (l' := [(0, .ref (ω.2.2 395)), (1, .int a0), (2, .int a1), (3, .int (rj_fo (bX12_rain_43 μ a0 a1) 16 0 0)), (4, .int (nI 0))]) [1, 2, 3, 4, 0] rfl ?_
            refine lX12_rain_99 hω μ a0 a1     h1 h3 h9 16 0 (mX12_lacksT μ) rfl (And.left hq8) ?_
            refine rj_aload_n 0 dX12_rain_135 rfl rfl ?_
            refine rj_iload_n 3 dX12_rain_136 rfl rfl ?_
            refine rj_iconst (v := 1) dX12_rain_137 rfl (by decide) ?_
            refine rj_iadd dX12_rain_138 rfl ?_
            refine rj_putI (C0 := RX12) (T := TX12) (N := 16) (j := 15) dX12_rain_139 rfl vX12_rain_12 rfl (rj_lt hω (k := 395) rfl) (rj_sh hω ly_395) (by decide) kX12_rain_245 tyX12 tyX12_ok nmX12 rfl rfl rfl rfl ?_
            refine rj_aload_n 0 dX12_rain_142 rfl rfl ?_
            refine rj_iconst (v := 0) dX12_rain_143 rfl (by decide) ?_
            refine rj_iconst (v := 0) dX12_rain_144 rfl (by decide) ?_
            refine rj_cV (rest := []) (sX12_triesPlansF (g := g) (ω := ω) hω (rj_pi (rj_fo (bX12_rain_99 μ a0 a1) 16 0 (mX12_lacksT μ)) 395 15 ((rj_fo (bX12_rain_43 μ a0 a1) 16 0 0) + 1)) 0 0  (vp_in_nI (n := 0) (rj_bl rfl) (rj_bl rfl)) (And.left (And.right hq8))) gX12_rain_X12_triesPlans (rj_lt hω (k := 395) rfl) (rj_sh hω ly_395) rfl rfl hVX12_triesPlans ⟨Nat.le_of_ble_eq_true rfl, Nat.le_of_ble_eq_true rfl⟩ dX12_rain_145 rfl rfl rfl (Nat.le_of_ble_eq_true rfl) rfl (Nat.le_of_ble_eq_true rfl) rfl ?_
            refine rj_aload_n 0 dX12_rain_148 rfl rfl ?_
            refine rj_getR (C0 := RX12) (T := TX12) (N := 16) (j := 14) (r := 437) dX12_rain_149 rfl vX12_rain_12 rfl (rj_lt hω (k := 395) rfl) (rj_sh hω ly_395) (by decide) kX12_rain_36 rfl ?_
            refine rj_iconst (v := 0) dX12_rain_152 rfl (by decide) ?_
            refine rj_aload_n 0 dX12_rain_153 rfl rfl ?_
            refine rj_getR (C0 := RX12) (T := TX12) (N := 16) (j := 12) (r := 435) dX12_rain_154 rfl vX12_rain_12 rfl (rj_lt hω (k := 395) rfl) (rj_sh hω ly_395) (by decide) kX12_rain_30 rfl ?_
            refine rj_iconst (v := 0) dX12_rain_157 rfl (by decide) ?_
            refine rj_bipush (v := 16) dX12_rain_158 rfl (by decide) ?_
            refine rj_copyi (mm := 16) dX12_rain_160 rfl jX12_rain_58_0 jX12_rain_58_1 jX12_rain_58_2 jX12_rain_58_3 (rj_lt hω (k := 437) rfl) (rj_sh hω ly_437) (rj_lt hω (k := 435) rfl) (rj_sh hω ly_435) (Nat.le_of_ble_eq_true rfl) (Nat.le_of_ble_eq_true rfl) (rj_bl rfl) (Nat.le_of_ble_eq_true rfl) (by decide) ?_
            refine rj_aload_n 0 dX12_rain_163 rfl rfl ?_
            refine rj_iconst (v := 1) dX12_rain_164 rfl (by decide) ?_
            refine rj_putI (C0 := RX12) (T := TX12) (N := 16) (j := 11) dX12_rain_165 rfl vX12_rain_12 rfl (rj_lt hω (k := 395) rfl) (rj_sh hω ly_395) (by decide) kX12_rain_64 tyX12 tyX12_ok nmX12 rfl rfl (by decide) rfl ?_
            refine rj_aload_n 0 dX12_rain_168 rfl rfl ?_
            refine rj_getI (C0 := RX12) (T := TX12) (N := 16) (j := 15) dX12_rain_169 rfl vX12_rain_12 rfl (rj_lt hω (k := 395) rfl) (rj_sh hω ly_395) (by decide) kX12_rain_245 rfl ?_
            exact rj_iret dX12_rain_172 rfl (Nat.le_of_ble_eq_true rfl) (Nat.le_of_ble_eq_true rfl) ⟨(by unfold fX12_rain; rw [if_neg h1]; rw [if_neg h3]; rw [if_neg h9]; try rfl), rfl, (by unfold mX12_rain; rw [if_neg h1]; rw [if_neg h3]; rw [if_neg h9]; try rfl)⟩
          · exact absurd (by decide) h11
      · exact absurd (by decide) h5
