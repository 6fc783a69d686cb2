theorem hSX12_waitsInOne : yX12_waitsInOne.cls ≠ "java/lang/invoke/MethodHandle" ∧ yX12_waitsInOne.cls ≠ "java/lang/invoke/VarHandle" ∧ (parseMethodDescriptor yX12_waitsInOne.desc).map (fun d => d.parameters.length) = some 0 := by decide +kernel
theorem hVX12_waitsInOne : yX12_waitsInOne.cls = RX12 ∧ yX12_waitsInOne.cls ≠ "java/lang/invoke/MethodHandle" ∧ yX12_waitsInOne.cls ≠ "java/lang/invoke/VarHandle" ∧ (parseMethodDescriptor yX12_waitsInOne.desc).map (fun d => d.parameters.length) = some 0 := by decide +kernel
theorem vX12_waitsInOne_12 : ∀ w ∈ u_ws RX12 TX12 16, w ∈ wsX12_waitsInOne := by decide +kernel
theorem kX12_waitsInOne_9 : Cond.fieldLink RX12 9 (TX12 1).1 (TX12 1).2.1 (TX12 1).2.2.1 ∈ wsX12_waitsInOne := by decide +kernel
noncomputable def bX12_waitsInOne_6 (μ : rj_M) (k : Nat) (j6 : Nat) (s6 : rj_M) : rj_M := (if (fX12_lineOf s6 (nI j6)) = 0 then (rj_pi s6 k (nI j6).toNatClampNeg 0) else (rj_pi s6 k (nI j6).toNatClampNeg (s6.1 396 (370 + (nI j6)).toNatClampNeg)))
set_option maxHeartbeats 4000000 in
set_option maxRecDepth 100000 in
theorem lX12_waitsInOne_6 {g : rj_G} {ω : rj_W} (hω : rj_ok ω) (μ : rj_M) (k : Nat) (hk_k : k < ω.1) (hs_k : ω.2.1 k = .inl (0, 3)) (hn_3 : 3 < 2 ^ 31)     {F : rj_F} : ∀ (r j : Nat) (s : rj_M), j + r = 3 → (rj_R g RX12 cX12_waitsInOne 7 (some .int) wsX12_waitsInOne [] (rj_rm 4 1) F 1 ω (rj_fo (bX12_waitsInOne_6 μ k) r j s) [(0, .ref (ω.2.2 395)), (1, .ref (ω.2.2 k)), (2, .int (nI 3))] 42 []) → rj_R g RX12 cX12_waitsInOne 7 (some .int) wsX12_waitsInOne [] (rj_rm 4 1) F 1 ω s [(0, .ref (ω.2.2 395)), (1, .ref (ω.2.2 k)), (2, .int (nI j))] 6 [] := by
  intro r
  induction r with
  | zero =>
    intro j s hj K
    have e0 : j = 3 := by omega
    have hge : 3 ≤ nI j := by
      rw [e0]
      exact Int32.le_refl _
    refine rj_iload_n 2 dX12_waitsInOne_6 rfl rfl ?_
    refine rj_iconst (v := 3) dX12_waitsInOne_7 rfl (by decide) ?_
    refine rj_icmp_ge dX12_waitsInOne_8 rfl rfl (fun h3 => ?_) (fun h3 => ?_)
    · have e1 : nI j = nI 3 := by rw [e0]
      rw [e1]
      exact K
    · exact absurd hge h3
  | succ r ih =>
    intro j6 s6 hj K
    have hl6 : j6 < 3 := by omega
    have hg6 : ¬ 3 ≤ nI j6 := nI_ge hl6 (rj_bl rfl)
    refine rj_iload_n 2 dX12_waitsInOne_6 rfl rfl ?_
    refine rj_iconst (v := 3) dX12_waitsInOne_7 rfl (by decide) ?_
    refine rj_icmp_ge dX12_waitsInOne_8 rfl rfl (fun h1 => ?_) (fun h1 => ?_)
    · exact absurd h1 hg6
    · refine rj_aload_n 1 dX12_waitsInOne_11 rfl rfl ?_
      refine rj_iload_n 2 dX12_waitsInOne_12 rfl rfl ?_
      refine rj_aload_n 0 dX12_waitsInOne_13 rfl rfl ?_
      refine rj_iload_n 2 dX12_waitsInOne_14 rfl rfl ?_
      refine rj_cV (rest := [.int (nI j6), .ref (ω.2.2 k)]) (sX12_lineOf (g := g) (ω := ω) hω s6 (nI j6)  (vp_in_nI hl6 (rj_bl rfl)) ) gX12_waitsInOne_X12_lineOf (rj_lt hω (k := 395) rfl) (rj_sh hω ly_395) rfl rfl hVX12_lineOf ⟨Nat.le_of_ble_eq_true rfl, Nat.le_of_ble_eq_true rfl⟩ dX12_waitsInOne_15 rfl rfl rfl (Nat.le_of_ble_eq_true rfl) rfl (Nat.le_of_ble_eq_true rfl) rfl ?_
      refine rj_if_ne dX12_waitsInOne_18 rfl rfl (fun h2 => ?_) (fun h2 => ?_)
      · skip
        refine rj_aload_n 0 dX12_waitsInOne_25 rfl rfl ?_
        refine rj_getR (C0 := RX12) (T := TX12) (N := 16) (j := 1) (r := 396) dX12_waitsInOne_26 rfl vX12_waitsInOne_12 rfl (rj_lt hω (k := 395) rfl) (rj_sh hω ly_395) (by decide) kX12_waitsInOne_9 rfl ?_
        refine rj_sipush (v := 370) dX12_waitsInOne_29 rfl (by decide) ?_
        refine rj_iload_n 2 dX12_waitsInOne_32 rfl rfl ?_
        refine rj_iadd dX12_waitsInOne_33 rfl ?_
        refine rj_iald dX12_waitsInOne_34 rfl (rj_lt hω (k := 396) rfl) (rj_sh hω ly_396) (rj_vle (rj_vadd (N := 373) (vp_in_nI (n := 370) (N := 371) (rj_bl rfl) (rj_bl rfl)) (vp_in_nI (N := 3) hl6 (rj_bl rfl)) rfl rfl) rfl) ?_
        refine rj_iast dX12_waitsInOne_35 rfl hk_k hs_k (vp_in_nI hl6 (rj_bl rfl)) ?_
        refine rj_iinc (v := nI (j6 + 1)) (l' := [(2, .int (nI (j6 + 1))), (0, .ref (ω.2.2 395)), (1, .ref (ω.2.2 k))]) 2 dX12_waitsInOne_36 rfl rfl (nI_succ j6).symm (rj_bl rfl) rfl ?_
        refine rj_goto dX12_waitsInOne_39 rfl ?_
        have e : bX12_waitsInOne_6 μ k j6 s6 = (rj_pi s6 k (nI j6).toNatClampNeg (s6.1 396 (370 + (nI j6)).toNatClampNeg)) := by unfold bX12_waitsInOne_6; rw [if_neg h2]; try rfl
        exact rj_sub (l' := [(0, .ref (ω.2.2 395)), (1, .ref (ω.2.2 k)), (2, .int (nI (j6 + 1)))]) [1, 2, 0] rfl (ih (j6 + 1) (rj_pi s6 k (nI j6).toNatClampNeg (s6.1 396 (370 + (nI j6)).toNatClampNeg)) (by omega) (by rw [rj_fo_s, e] at K; exact K))
      · skip
        refine rj_iconst (v := 0) dX12_waitsInOne_21 rfl (by decide) ?_
        refine rj_goto dX12_waitsInOne_22 rfl ?_
        refine rj_iast dX12_waitsInOne_35 rfl hk_k hs_k (vp_in_nI hl6 (rj_bl rfl)) ?_
        refine rj_iinc (v := nI (j6 + 1)) (l' := [(2, .int (nI (j6 + 1))), (0, .ref (ω.2.2 395)), (1, .ref (ω.2.2 k))]) 2 dX12_waitsInOne_36 rfl rfl (nI_succ j6).symm (rj_bl rfl) rfl ?_
        refine rj_goto dX12_waitsInOne_39 rfl ?_
        have e : bX12_waitsInOne_6 μ k j6 s6 = (rj_pi s6 k (nI j6).toNatClampNeg 0) := by unfold bX12_waitsInOne_6; rw [if_pos h2]; try rfl
        exact rj_sub (l' := [(0, .ref (ω.2.2 395)), (1, .ref (ω.2.2 k)), (2, .int (nI (j6 + 1)))]) [1, 2, 0] rfl (ih (j6 + 1) (rj_pi s6 k (nI j6).toNatClampNeg 0) (by omega) (by rw [rj_fo_s, e] at K; exact K))
noncomputable def bX12_waitsInOne_65 (μ : rj_M) (k : Nat) (s53 : Int32 × Int32 × Int32 × rj_M) (j65 : Nat) (s65 : Int32) : Int32 := (if (s53.2.2.2.1 k s65.toNatClampNeg) ≤ (s53.2.2.2.1 k (nI j65).toNatClampNeg) then s65 else (nI j65))
noncomputable def qX12_waitsInOne_65 (μ : rj_M) (k : Nat) (s53 : Int32 × Int32 × Int32 × rj_M) (j65 : Nat) (s65 : Int32) : Prop := (vp_in s65 3 ∧ True)
set_option maxHeartbeats 4000000 in
set_option maxRecDepth 100000 in
theorem lX12_waitsInOne_65 {g : rj_G} {ω : rj_W} (hω : rj_ok ω) (μ : rj_M) (k : Nat) (s53 : Int32 × Int32 × Int32 × rj_M) (hk_k : k < ω.1) (hs_k : ω.2.1 k = .inl (0, 3)) (hn_3 : 3 < 2 ^ 31)    (h4 : ¬ (s53.2.2.1 = (-1))) {F : rj_F} : ∀ (r j : Nat) (s : Int32), j + r = 3 → (True → ra_fo (qX12_waitsInOne_65 μ k s53) (bX12_waitsInOne_65 μ k s53) r j s) → (rj_R g RX12 cX12_waitsInOne 7 (some .int) wsX12_waitsInOne [] (rj_rm 4 1) F 1 ω s53.2.2.2 [(0, .ref (ω.2.2 395)), (1, .ref (ω.2.2 k)), (2, .int s53.1), (3, .int s53.2.1), (4, .int s53.2.2.1), (5, .int (rj_fo (bX12_waitsInOne_65 μ k s53) r j s)), (6, .int (nI 3))] 92 []) → rj_R g RX12 cX12_waitsInOne 7 (some .int) wsX12_waitsInOne [] (rj_rm 4 1) F 1 ω s53.2.2.2 [(0, .ref (ω.2.2 395)), (1, .ref (ω.2.2 k)), (2, .int s53.1), (3, .int s53.2.1), (4, .int s53.2.2.1), (5, .int s), (6, .int (nI j))] 65 [] := by
  intro r
  induction r with
  | zero =>
    intro j s hj hq0 K
    have e0 : j = 3 := by omega
    have hge : 3 ≤ nI j := by
      rw [e0]
      exact Int32.le_refl _
    refine rj_iload 6 dX12_waitsInOne_65 rfl rfl ?_
    refine rj_iconst (v := 3) dX12_waitsInOne_67 rfl (by decide) ?_
    refine rj_icmp_ge dX12_waitsInOne_68 rfl rfl (fun h7 => ?_) (fun h7 => ?_)
    · have e1 : nI j = nI 3 := by rw [e0]
      rw [e1]
      exact K
    · exact absurd hge h7
  | succ r ih =>
    intro j65 s65 hj hq0 K
    have hl65 : j65 < 3 := by omega
    have hg65 : ¬ 3 ≤ nI j65 := nI_ge hl65 (rj_bl rfl)
    have hqa := ra_fo_q (hq0 True.intro)
    unfold qX12_waitsInOne_65 at hqa
    refine rj_iload 6 dX12_waitsInOne_65 rfl rfl ?_
    refine rj_iconst (v := 3) dX12_waitsInOne_67 rfl (by decide) ?_
    refine rj_icmp_ge dX12_waitsInOne_68 rfl rfl (fun h5 => ?_) (fun h5 => ?_)
    · exact absurd h5 hg65
    · refine rj_aload_n 1 dX12_waitsInOne_71 rfl rfl ?_
      refine rj_iload 6 dX12_waitsInOne_72 rfl rfl ?_
      refine rj_iald dX12_waitsInOne_74 rfl hk_k hs_k (vp_in_nI hl65 (rj_bl rfl)) ?_
      refine rj_aload_n 1 dX12_waitsInOne_75 rfl rfl ?_
      refine rj_iload 5 dX12_waitsInOne_76 rfl rfl ?_
      refine rj_iald dX12_waitsInOne_78 rfl hk_k hs_k (And.left hqa) ?_
      refine rj_icmp_ge dX12_waitsInOne_79 rfl rfl (fun h6 => ?_) (fun h6 => ?_)
      · skip
        refine rj_iinc (v := nI (j65 + 1)) (l' := [(6, .int (nI (j65 + 1))), (0, .ref (ω.2.2 395)), (1, .ref (ω.2.2 k)), (2, .int s53.1), (3, .int s53.2.1), (4, .int s53.2.2.1), (5, .int s65)]) 6 dX12_waitsInOne_86 rfl rfl (nI_succ j65).symm (rj_bl rfl) rfl ?_
        refine rj_goto dX12_waitsInOne_89 rfl ?_
        have e : bX12_waitsInOne_65 μ k s53 j65 s65 = s65 := by unfold bX12_waitsInOne_65; rw [if_pos h6]; try rfl
        exact rj_sub (l' := [(0, .ref (ω.2.2 395)), (1, .ref (ω.2.2 k)), (2, .int s53.1), (3, .int s53.2.1), (4, .int s53.2.2.1), (5, .int s65), (6, .int (nI (j65 + 1)))]) [1, 2, 3, 4, 5, 6, 0] rfl (ih (j65 + 1) s65 (by omega) (fun _ => ra_fo_n (hq0 True.intro) e) (by rw [rj_fo_s, e] at K; exact K))
      · skip
        refine rj_iload 6 dX12_waitsInOne_82 rfl rfl ?_
        refine rj_istore (l' := [(5, .int (nI j65)), (0, .ref (ω.2.2 395)), (1, .ref (ω.2.2 k)), (2, .int s53.1), (3, .int s53.2.1), (4, .int s53.2.2.1), (6, .int (nI j65))]) dX12_waitsInOne_84 rfl (rj_bl rfl) rfl ?_
        refine rj_iinc (v := nI (j65 + 1)) (l' := [(6, .int (nI (j65 + 1))), (5, .int (nI j65)), (0, .ref (ω.2.2 395)), (1, .ref (ω.2.2 k)), (2, .int s53.1), (3, .int s53.2.1), (4, .int s53.2.2.1)]) 6 dX12_waitsInOne_86 rfl rfl (nI_succ j65).symm (rj_bl rfl) rfl ?_
        refine rj_goto dX12_waitsInOne_89 rfl ?_
        have e : bX12_waitsInOne_65 μ k s53 j65 s65 = (nI j65) := by unfold bX12_waitsInOne_65; rw [if_neg h6]; try rfl
        exact rj_sub (l' := [(0, .ref (ω.2.2 395)), (1, .ref (ω.2.2 k)), (2, .int s53.1), (3, .int s53.2.1), (4, .int s53.2.2.1), (5, .int (nI j65)), (6, .int (nI (j65 + 1)))]) [2, 3, 4, 5, 6, 1, 0] rfl (ih (j65 + 1) (nI j65) (by omega) (fun _ => ra_fo_n (hq0 True.intro) e) (by rw [rj_fo_s, e] at K; exact K))
noncomputable def bX12_waitsInOne_53 (μ : rj_M) (k : Nat) (s53 : Int32 × Int32 × Int32 × rj_M) : (Int32 × Int32 × Int32 × rj_M) ⊕ (Int32 × Int32 × Int32 × rj_M) := (if s53.2.2.1 = (-1) then .inr (s53.1, s53.2.1, s53.2.2.1, s53.2.2.2) else .inl ((s53.1 + (s53.2.2.2.1 k (rj_fo (bX12_waitsInOne_65 μ k s53) 2 1 0).toNatClampNeg)), ((rj_pi s53.2.2.2 k (rj_fo (bX12_waitsInOne_65 μ k s53) 2 1 0).toNatClampNeg ((s53.2.2.2.1 k (rj_fo (bX12_waitsInOne_65 μ k s53) 2 1 0).toNatClampNeg) + (s53.2.2.2.1 396 (330 : Int32).toNatClampNeg))).1 396 (373 + s53.2.2.1).toNatClampNeg), (fX12_nextBehind (rj_pi s53.2.2.2 k (rj_fo (bX12_waitsInOne_65 μ k s53) 2 1 0).toNatClampNeg ((s53.2.2.2.1 k (rj_fo (bX12_waitsInOne_65 μ k s53) 2 1 0).toNatClampNeg) + (s53.2.2.2.1 396 (330 : Int32).toNatClampNeg))) ((rj_pi s53.2.2.2 k (rj_fo (bX12_waitsInOne_65 μ k s53) 2 1 0).toNatClampNeg ((s53.2.2.2.1 k (rj_fo (bX12_waitsInOne_65 μ k s53) 2 1 0).toNatClampNeg) + (s53.2.2.2.1 396 (330 : Int32).toNatClampNeg))).1 396 (373 + s53.2.2.1).toNatClampNeg)), (rj_pi s53.2.2.2 k (rj_fo (bX12_waitsInOne_65 μ k s53) 2 1 0).toNatClampNeg ((s53.2.2.2.1 k (rj_fo (bX12_waitsInOne_65 μ k s53) 2 1 0).toNatClampNeg) + (s53.2.2.2.1 396 (330 : Int32).toNatClampNeg)))))
noncomputable def qX12_waitsInOne_53 (μ : rj_M) (k : Nat) (s53 : Int32 × Int32 × Int32 × rj_M) : Prop := (((s53.2.2.1 = (-1)) → True) ∧ ((¬ (s53.2.2.1 = (-1))) → ((True → ra_fo (qX12_waitsInOne_65 μ k s53) (bX12_waitsInOne_65 μ k s53) 2 1 0) ∧ (vp_in (rj_fo (bX12_waitsInOne_65 μ k s53) 2 1 0) 3 ∧ vp_in (rj_fo (bX12_waitsInOne_65 μ k s53) 2 1 0) 3 ∧ vp_in (rj_fo (bX12_waitsInOne_65 μ k s53) 2 1 0) 3 ∧ vp_in (373 + s53.2.2.1) 625 ∧ qX12_nextBehind (rj_pi s53.2.2.2 k (rj_fo (bX12_waitsInOne_65 μ k s53) 2 1 0).toNatClampNeg ((s53.2.2.2.1 k (rj_fo (bX12_waitsInOne_65 μ k s53) 2 1 0).toNatClampNeg) + (s53.2.2.2.1 396 (330 : Int32).toNatClampNeg))) ((rj_pi s53.2.2.2 k (rj_fo (bX12_waitsInOne_65 μ k s53) 2 1 0).toNatClampNeg ((s53.2.2.2.1 k (rj_fo (bX12_waitsInOne_65 μ k s53) 2 1 0).toNatClampNeg) + (s53.2.2.2.1 396 (330 : Int32).toNatClampNeg))).1 396 (373 + s53.2.2.1).toNatClampNeg) ∧ True))))
set_option maxHeartbeats 4000000 in
set_option maxRecDepth 100000 in
theorem lX12_waitsInOne_53 {g : rj_G} {ω : rj_W} (hω : rj_ok ω) (μ : rj_M) (k : Nat) (hk_k : k < ω.1) (hs_k : ω.2.1 k = .inl (0, 3)) (hn_3 : 3 < 2 ^ 31)    {F : rj_F} : ∀ (r : Nat) (s : Int32 × Int32 × Int32 × rj_M), (True → ra_we (qX12_waitsInOne_53 μ k) (bX12_waitsInOne_53 μ k) r s) → (rj_R g RX12 cX12_waitsInOne 7 (some .int) wsX12_waitsInOne [] (rj_rm 4 1) F 1 ω ((rj_we (bX12_waitsInOne_53 μ k) r s).2.2.2) [(0, .ref (ω.2.2 395)), (1, .ref (ω.2.2 k)), (2, .int ((rj_we (bX12_waitsInOne_53 μ k) r s).1)), (3, .int ((rj_we (bX12_waitsInOne_53 μ k) r s).2.1)), (4, .int ((rj_we (bX12_waitsInOne_53 μ k) r s).2.2.1))] 136 []) → rj_R g RX12 cX12_waitsInOne 7 (some .int) wsX12_waitsInOne [] (rj_rm 4 1) F 1 ω s.2.2.2 [(0, .ref (ω.2.2 395)), (1, .ref (ω.2.2 k)), (2, .int s.1), (3, .int s.2.1), (4, .int s.2.2.1)] 53 [] := by
  intro r
  induction r with
  | zero =>
    intro s hq0 K
    exact (ra_we_0 (hq0 True.intro)).elim
  | succ r ih =>
    intro s53 hq0 K
    have hqa := ra_we_q (hq0 True.intro)
    unfold qX12_waitsInOne_53 at hqa
    refine rj_iload 4 dX12_waitsInOne_53 rfl rfl ?_
    refine rj_iconst (v := (-1)) dX12_waitsInOne_55 rfl (by decide) ?_
    refine rj_icmp_eq dX12_waitsInOne_56 rfl rfl (fun h4 => ?_) (fun h4 => ?_)
    · skip
      have e : bX12_waitsInOne_53 μ k s53 = .inr (s53.1, s53.2.1, s53.2.2.1, s53.2.2.2) := by unfold bX12_waitsInOne_53; rw [if_pos h4]; try rfl
      exact rj_sub (l' := [(0, .ref (ω.2.2 395)), (1, .ref (ω.2.2 k)), (2, .int s53.1), (3, .int s53.2.1), (4, .int s53.2.2.1)]) [0, 1, 2, 3, 4] rfl (by rw [rj_we_r e] at K; exact K)
    · have hq4 := (And.right hqa) h4
      refine rj_iconst (v := 0) dX12_waitsInOne_59 rfl (by decide) ?_
      refine rj_istore (l' := [(5, .int 0), (0, .ref (ω.2.2 395)), (1, .ref (ω.2.2 k)), (2, .int s53.1), (3, .int s53.2.1), (4, .int s53.2.2.1)]) dX12_waitsInOne_60 rfl (rj_bl rfl) rfl ?_
      refine rj_iconst (v := 1) dX12_waitsInOne_62 rfl (by decide) ?_
      refine rj_istore (l' := [(6, .int 1), (5, .int 0), (0, .ref (ω.2.2 395)), (1, .ref (ω.2.2 k)), (2, .int s53.1), (3, .int s53.2.1), (4, .int s53.2.2.1)]) dX12_waitsInOne_63 rfl (rj_bl rfl) rfl ?_
      refine rj_sub (l' := [(0, .ref (ω.2.2 395)), (1, .ref (ω.2.2 k)), (2, .int s53.1), (3, .int s53.2.1), (4, .int s53.2.2.1), (5, .int 0), (6, .int (nI 1))]) [2, 3, 4, 5, 6, 1, 0] rfl ?_
      refine lX12_waitsInOne_65 hω μ k s53 hk_k hs_k hn_3    h4 2 1 0 rfl (And.left hq4) ?_
      refine rj_iload_n 2 dX12_waitsInOne_92 rfl rfl ?_
      refine rj_aload_n 1 dX12_waitsInOne_93 rfl rfl ?_
      refine rj_iload 5 dX12_waitsInOne_94 rfl rfl ?_
      refine rj_iald dX12_waitsInOne_96 rfl hk_k hs_k (And.left (And.right hq4)) ?_
      refine rj_iadd dX12_waitsInOne_97 rfl ?_
      refine rj_istore_n (l' := [(2, .int (s53.1 + (s53.2.2.2.1 k (rj_fo (bX12_waitsInOne_65 μ k s53) 2 1 0).toNatClampNeg))), (0, .ref (ω.2.2 395)), (1, .ref (ω.2.2 k)), (3, .int s53.2.1), (4, .int s53.2.2.1), (5, .int (rj_fo (bX12_waitsInOne_65 μ k s53) 2 1 0)), (6, .int (nI 3))]) dX12_waitsInOne_98 rfl (rj_bl rfl) rfl ?_
      refine rj_aload_n 2 dX12_waitsInOne_99 rfl rfl ?_
      refine rj_iload 5 dX12_waitsInOne_100 rfl rfl ?_
      refine rj_dup2 dX12_waitsInOne_102 rfl rfl rfl ?_
      refine rj_iald dX12_waitsInOne_103 rfl hk_k hs_k (And.left (And.right (And.right hq4))) ?_
      refine rj_aload_n 1 dX12_waitsInOne_104 rfl rfl ?_
      refine rj_getR (C0 := RX12) (T := TX12) (N := 16) (j := 1) (r := 396) dX12_waitsInOne_105 rfl vX12_waitsInOne_12 rfl (rj_lt hω (k := 395) rfl) (rj_sh hω ly_395) (by decide) kX12_waitsInOne_9 rfl ?_
      refine rj_sipush (v := 330) dX12_waitsInOne_108 rfl (by decide) ?_
      refine rj_iald dX12_waitsInOne_111 rfl (rj_lt hω (k := 396) rfl) (rj_sh hω ly_396) (vp_in_nI (n := 330) (rj_bl rfl) (rj_bl rfl)) ?_
      refine rj_iadd dX12_waitsInOne_112 rfl ?_
      refine rj_iast dX12_waitsInOne_113 rfl hk_k hs_k (And.left (And.right (And.right (And.right hq4)))) ?_
      refine rj_aload_n 1 dX12_waitsInOne_114 rfl rfl ?_
      refine rj_getR (C0 := RX12) (T := TX12) (N := 16) (j := 1) (r := 396) dX12_waitsInOne_115 rfl vX12_waitsInOne_12 rfl (rj_lt hω (k := 395) rfl) (rj_sh hω ly_395) (by decide) kX12_waitsInOne_9 rfl ?_
      refine rj_sipush (v := 373) dX12_waitsInOne_118 rfl (by decide) ?_
      refine rj_iload 4 dX12_waitsInOne_121 rfl rfl ?_
      refine rj_iadd dX12_waitsInOne_123 rfl ?_
      refine rj_iald dX12_waitsInOne_124 rfl (rj_lt hω (k := 396) rfl) (rj_sh hω ly_396) (And.left (And.right (And.right (And.right (And.right hq4))))) ?_
      refine rj_istore_n (l' := [(3, .int ((rj_pi s53.2.2.2 k (rj_fo (bX12_waitsInOne_65 μ k s53) 2 1 0).toNatClampNeg ((s53.2.2.2.1 k (rj_fo (bX12_waitsInOne_65 μ k s53) 2 1 0).toNatClampNeg) + (s53.2.2.2.1 396 (330 : Int32).toNatClampNeg))).1 396 (373 + s53.2.2.1).toNatClampNeg)), (2, .int (s53.1 + (s53.2.2.2.1 k (rj_fo (bX12_waitsInOne_65 μ k s53) 2 1 0).toNatClampNeg))), (0, .ref (ω.2.2 395)), (1, .ref (ω.2.2 k)), (4, .int s53.2.2.1), (5, .int (rj_fo (bX12_waitsInOne_65 μ k s53) 2 1 0)), (6, .int (nI 3))]) dX12_waitsInOne_125 rfl (rj_bl rfl) rfl ?_
      refine rj_aload_n 2 dX12_waitsInOne_126 rfl rfl ?_
      refine rj_iload_n 0 dX12_waitsInOne_127 rfl rfl ?_
      refine rj_cV (rest := []) (sX12_nextBehind (g := g) (ω := ω) hω (rj_pi s53.2.2.2 k (rj_fo (bX12_waitsInOne_65 μ k s53) 2 1 0).toNatClampNeg ((s53.2.2.2.1 k (rj_fo (bX12_waitsInOne_65 μ k s53) 2 1 0).toNatClampNeg) + (s53.2.2.2.1 396 (330 : Int32).toNatClampNeg))) ((rj_pi s53.2.2.2 k (rj_fo (bX12_waitsInOne_65 μ k s53) 2 1 0).toNatClampNeg ((s53.2.2.2.1 k (rj_fo (bX12_waitsInOne_65 μ k s53) 2 1 0).toNatClampNeg) + (s53.2.2.2.1 396 (330 : Int32).toNatClampNeg))).1 396 (373 + s53.2.2.1).toNatClampNeg)   (And.left (And.right (And.right (And.right (And.right (And.right hq4))))))) gX12_waitsInOne_X12_nextBehind (rj_lt hω (k := 395) rfl) (rj_sh hω ly_395) rfl rfl hVX12_nextBehind ⟨Nat.le_of_ble_eq_true rfl, Nat.le_of_ble_eq_true rfl⟩ dX12_waitsInOne_128 rfl rfl rfl (Nat.le_of_ble_eq_true rfl) rfl (Nat.le_of_ble_eq_true rfl) rfl ?_
      refine rj_istore (l' := [(4, .int (fX12_nextBehind (rj_pi s53.2.2.2 k (rj_fo (bX12_waitsInOne_65 μ k s53) 2 1 0).toNatClampNeg ((s53.2.2.2.1 k (rj_fo (bX12_waitsInOne_65 μ k s53) 2 1 0).toNatClampNeg) + (s53.2.2.2.1 396 (330 : Int32).toNatClampNeg))) ((rj_pi s53.2.2.2 k (rj_fo (bX12_waitsInOne_65 μ k s53) 2 1 0).toNatClampNeg ((s53.2.2.2.1 k (rj_fo (bX12_waitsInOne_65 μ k s53) 2 1 0).toNatClampNeg) + (s53.2.2.2.1 396 (330 : Int32).toNatClampNeg))).1 396 (373 + s53.2.2.1).toNatClampNeg))), (3, .int ((rj_pi s53.2.2.2 k (rj_fo (bX12_waitsInOne_65 μ k s53) 2 1 0).toNatClampNeg ((s53.2.2.2.1 k (rj_fo (bX12_waitsInOne_65 μ k s53) 2 1 0).toNatClampNeg) + (s53.2.2.2.1 396 (330 : Int32).toNatClampNeg))).1 396 (373 + s53.2.2.1).toNatClampNeg)), (2, .int (s53.1 + (s53.2.2.2.1 k (rj_fo (bX12_waitsInOne_65 μ k s53) 2 1 0).toNatClampNeg))), (0, .ref (ω.2.2 395)), (1, .ref (ω.2.2 k)), (5, .int (rj_fo (bX12_waitsInOne_65 μ k s53) 2 1 0)), (6, .int (nI 3))]) dX12_waitsInOne_131 rfl (rj_bl rfl) rfl ?_
      refine rj_goto dX12_waitsInOne_133 rfl ?_
      have e : bX12_waitsInOne_53 μ k s53 = .inl ((s53.1 + (s53.2.2.2.1 k (rj_fo (bX12_waitsInOne_65 μ k s53) 2 1 0).toNatClampNeg)), ((rj_pi s53.2.2.2 k (rj_fo (bX12_waitsInOne_65 μ k s53) 2 1 0).toNatClampNeg ((s53.2.2.2.1 k (rj_fo (bX12_waitsInOne_65 μ k s53) 2 1 0).toNatClampNeg) + (s53.2.2.2.1 396 (330 : Int32).toNatClampNeg))).1 396 (373 + s53.2.2.1).toNatClampNeg), (fX12_nextBehind (rj_pi s53.2.2.2 k (rj_fo (bX12_waitsInOne_65 μ k s53) 2 1 0).toNatClampNeg ((s53.2.2.2.1 k (rj_fo (bX12_waitsInOne_65 μ k s53) 2 1 0).toNatClampNeg) + (s53.2.2.2.1 396 (330 : Int32).toNatClampNeg))) ((rj_pi s53.2.2.2 k (rj_fo (bX12_waitsInOne_65 μ k s53) 2 1 0).toNatClampNeg ((s53.2.2.2.1 k (rj_fo (bX12_waitsInOne_65 μ k s53) 2 1 0).toNatClampNeg) + (s53.2.2.2.1 396 (330 : Int32).toNatClampNeg))).1 396 (373 + s53.2.2.1).toNatClampNeg)), (rj_pi s53.2.2.2 k (rj_fo (bX12_waitsInOne_65 μ k s53) 2 1 0).toNatClampNeg ((s53.2.2.2.1 k (rj_fo (bX12_waitsInOne_65 μ k s53) 2 1 0).toNatClampNeg) + (s53.2.2.2.1 396 (330 : Int32).toNatClampNeg)))) := by unfold bX12_waitsInOne_53; rw [if_neg h4]; try rfl
      exact rj_sub (l' := [(0, .ref (ω.2.2 395)), (1, .ref (ω.2.2 k)), (2, .int (s53.1 + (s53.2.2.2.1 k (rj_fo (bX12_waitsInOne_65 μ k s53) 2 1 0).toNatClampNeg))), (3, .int ((rj_pi s53.2.2.2 k (rj_fo (bX12_waitsInOne_65 μ k s53) 2 1 0).toNatClampNeg ((s53.2.2.2.1 k (rj_fo (bX12_waitsInOne_65 μ k s53) 2 1 0).toNatClampNeg) + (s53.2.2.2.1 396 (330 : Int32).toNatClampNeg))).1 396 (373 + s53.2.2.1).toNatClampNeg)), (4, .int (fX12_nextBehind (rj_pi s53.2.2.2 k (rj_fo (bX12_waitsInOne_65 μ k s53) 2 1 0).toNatClampNeg ((s53.2.2.2.1 k (rj_fo (bX12_waitsInOne_65 μ k s53) 2 1 0).toNatClampNeg) + (s53.2.2.2.1 396 (330 : Int32).toNatClampNeg))) ((rj_pi s53.2.2.2 k (rj_fo (bX12_waitsInOne_65 μ k s53) 2 1 0).toNatClampNeg ((s53.2.2.2.1 k (rj_fo (bX12_waitsInOne_65 μ k s53) 2 1 0).toNatClampNeg) + (s53.2.2.2.1 396 (330 : Int32).toNatClampNeg))).1 396 (373 + s53.2.2.1).toNatClampNeg)))]) [3, 4, 2, 1, 0] rfl (ih ((s53.1 + (s53.2.2.2.1 k (rj_fo (bX12_waitsInOne_65 μ k s53) 2 1 0).toNatClampNeg)), ((rj_pi s53.2.2.2 k (rj_fo (bX12_waitsInOne_65 μ k s53) 2 1 0).toNatClampNeg ((s53.2.2.2.1 k (rj_fo (bX12_waitsInOne_65 μ k s53) 2 1 0).toNatClampNeg) + (s53.2.2.2.1 396 (330 : Int32).toNatClampNeg))).1 396 (373 + s53.2.2.1).toNatClampNeg), (fX12_nextBehind (rj_pi s53.2.2.2 k (rj_fo (bX12_waitsInOne_65 μ k s53) 2 1 0).toNatClampNeg ((s53.2.2.2.1 k (rj_fo (bX12_waitsInOne_65 μ k s53) 2 1 0).toNatClampNeg) + (s53.2.2.2.1 396 (330 : Int32).toNatClampNeg))) ((rj_pi s53.2.2.2 k (rj_fo (bX12_waitsInOne_65 μ k s53) 2 1 0).toNatClampNeg ((s53.2.2.2.1 k (rj_fo (bX12_waitsInOne_65 μ k s53) 2 1 0).toNatClampNeg) + (s53.2.2.2.1 396 (330 : Int32).toNatClampNeg))).1 396 (373 + s53.2.2.1).toNatClampNeg)), (rj_pi s53.2.2.2 k (rj_fo (bX12_waitsInOne_65 μ k s53) 2 1 0).toNatClampNeg ((s53.2.2.2.1 k (rj_fo (bX12_waitsInOne_65 μ k s53) 2 1 0).toNatClampNeg) + (s53.2.2.2.1 396 (330 : Int32).toNatClampNeg)))) (fun _ => ra_we_n (hq0 True.intro) e) (by rw [rj_we_l e] at K; exact K))
set_option maxHeartbeats 4000000 in
theorem lX12_waitsInOne_53u {g : rj_G} {ω : rj_W} (hω : rj_ok ω) (μ : rj_M) (k : Nat) (hk_k : k < ω.1) (hs_k : ω.2.1 k = .inl (0, 3)) (hn_3 : 3 < 2 ^ 31)    {F : rj_F} : ∀ (r : Nat) (c0 : Int32) (c1 : Int32) (c2 : Int32) (c3 : rj_M), (True → ra_we (qX12_waitsInOne_53 μ k) (bX12_waitsInOne_53 μ k) r (c0, c1, c2, c3)) → (rj_R g RX12 cX12_waitsInOne 7 (some .int) wsX12_waitsInOne [] (rj_rm 4 1) F 1 ω ((rj_we (bX12_waitsInOne_53 μ k) r (c0, c1, c2, c3)).2.2.2) [(0, .ref (ω.2.2 395)), (1, .ref (ω.2.2 k)), (2, .int ((rj_we (bX12_waitsInOne_53 μ k) r (c0, c1, c2, c3)).1)), (3, .int ((rj_we (bX12_waitsInOne_53 μ k) r (c0, c1, c2, c3)).2.1)), (4, .int ((rj_we (bX12_waitsInOne_53 μ k) r (c0, c1, c2, c3)).2.2.1))] 136 []) → rj_R g RX12 cX12_waitsInOne 7 (some .int) wsX12_waitsInOne [] (rj_rm 4 1) F 1 ω c3 [(0, .ref (ω.2.2 395)), (1, .ref (ω.2.2 k)), (2, .int c0), (3, .int c1), (4, .int c2)] 53 [] := fun r c0 c1 c2 c3 => lX12_waitsInOne_53 hω μ k hk_k hs_k hn_3    r (c0, c1, c2, c3)
noncomputable def fX12_waitsInOne (μ : rj_M) (k : Nat) : Int32 := (rj_we (bX12_waitsInOne_53 μ k) 14 (0, 0, (fX12_nextBehind (rj_fo (bX12_waitsInOne_6 μ k) 3 0 μ) 0), (rj_fo (bX12_waitsInOne_6 μ k) 3 0 μ))).1
noncomputable def mX12_waitsInOne (μ : rj_M) (k : Nat) : rj_M := (rj_we (bX12_waitsInOne_53 μ k) 14 (0, 0, (fX12_nextBehind (rj_fo (bX12_waitsInOne_6 μ k) 3 0 μ) 0), (rj_fo (bX12_waitsInOne_6 μ k) 3 0 μ))).2.2.2
noncomputable def qX12_waitsInOne (μ : rj_M) (k : Nat) : Prop := (qX12_nextBehind (rj_fo (bX12_waitsInOne_6 μ k) 3 0 μ) 0 ∧ ((True → ra_we (qX12_waitsInOne_53 μ k) (bX12_waitsInOne_53 μ k) 14 (0, 0, (fX12_nextBehind (rj_fo (bX12_waitsInOne_6 μ k) 3 0 μ) 0), (rj_fo (bX12_waitsInOne_6 μ k) 3 0 μ))) ∧ True))
set_option maxHeartbeats 40000000 in
set_option maxRecDepth 100000 in
theorem tX12_waitsInOne {g : rj_G} {ω : rj_W} (hω : rj_ok ω) (μ : rj_M) (k : Nat) (hk_k : k < ω.1) (hs_k : ω.2.1 k = .inl (0, 3)) (hn_3 : 3 < 2 ^ 31)  (hq : qX12_waitsInOne μ k) {P : rj_P} (hP : P (.inl (some (.int (fX12_waitsInOne μ k)))) ω (mX12_waitsInOne μ k)) : rj_R g RX12 cX12_waitsInOne 7 (some .int) wsX12_waitsInOne [] (rj_rm 4 1) (rj_E g (rj_rm 4 1) P) 1 ω μ [(0, .ref (ω.2.2 395)), (1, .ref (ω.2.2 k))] 4 [] := by
  have hqa := hq
  unfold qX12_waitsInOne at hqa
  refine rj_iconst (v := 0) dX12_waitsInOne_4 rfl (by decide) ?_
  refine rj_istore_n (l' := [(2, .int 0), (0, .ref (ω.2.2 395)), (1, .ref (ω.2.2 k))]) dX12_waitsInOne_5 rfl (rj_bl rfl) rfl ?_
  refine rj_sub (l' := [(0, .ref (ω.2.2 395)), (1, .ref (ω.2.2 k)), (2, .int (nI 0))]) [1, 2, 0] rfl ?_
  refine lX12_waitsInOne_6 hω μ k hk_k hs_k hn_3     3 0 μ rfl ?_
  refine rj_iconst (v := 0) dX12_waitsInOne_42 rfl (by decide) ?_
  refine rj_istore_n (l' := [(2, .int 0), (0, .ref (ω.2.2 395)), (1, .ref (ω.2.2 k))]) dX12_waitsInOne_43 rfl (rj_bl rfl) rfl ?_
  refine rj_iconst (v := 0) dX12_waitsInOne_44 rfl (by decide) ?_
  refine rj_istore_n (l' := [(3, .int 0), (2, .int 0), (0, .ref (ω.2.2 395)), (1, .ref (ω.2.2 k))]) dX12_waitsInOne_45 rfl (rj_bl rfl) rfl ?_
  refine rj_aload_n 2 dX12_waitsInOne_46 rfl rfl ?_
  refine rj_iconst (v := 0) dX12_waitsInOne_47 rfl (by decide) ?_
  refine rj_cV (rest := []) (sX12_nextBehind (g := g) (ω := ω) hω (rj_fo (bX12_waitsInOne_6 μ k) 3 0 μ) 0   (And.left hqa)) gX12_waitsInOne_X12_nextBehind (rj_lt hω (k := 395) rfl) (rj_sh hω ly_395) rfl rfl hVX12_nextBehind ⟨Nat.le_of_ble_eq_true rfl, Nat.le_of_ble_eq_true rfl⟩ dX12_waitsInOne_48 rfl rfl rfl (Nat.le_of_ble_eq_true rfl) rfl (Nat.le_of_ble_eq_true rfl) rfl ?_
  refine rj_istore (l' := [(4, .int (fX12_nextBehind (rj_fo (bX12_waitsInOne_6 μ k) 3 0 μ) 0)), (3, .int 0), (2, .int 0), (0, .ref (ω.2.2 395)), (1, .ref (ω.2.2 k))]) dX12_waitsInOne_51 rfl (rj_bl rfl) rfl ?_
  refine rj_sub (l' := [(0, .ref (ω.2.2 395)), (1, .ref (ω.2.2 k)), (2, .int 0), (3, .int 0), (4, .int (fX12_nextBehind (rj_fo (bX12_waitsInOne_6 μ k) 3 0 μ) 0))]) [3, 4, 2, 1, 0] rfl ?_
  refine lX12_waitsInOne_53u hω μ k hk_k hs_k hn_3    14 0 0 (fX12_nextBehind (rj_fo (bX12_waitsInOne_6 μ k) 3 0 μ) 0) (rj_fo (bX12_waitsInOne_6 μ k) 3 0 μ) (And.left (And.right hqa)) ?_
  refine rj_iload_n 2 dX12_waitsInOne_136 rfl rfl ?_
  exact rj_iret dX12_waitsInOne_137 rfl (Nat.le_of_ble_eq_true rfl) (Nat.le_of_ble_eq_true rfl) (by have e1 : fX12_waitsInOne μ k = (rj_we (bX12_waitsInOne_53 μ k) 14 (0, 0, (fX12_nextBehind (rj_fo (bX12_waitsInOne_6 μ k) 3 0 μ) 0), (rj_fo (bX12_waitsInOne_6 μ k) 3 0 μ))).1 := (by unfold fX12_waitsInOne; rfl); rw [e1] at hP; have e3 : mX12_waitsInOne μ k = (rj_we (bX12_waitsInOne_53 μ k) 14 (0, 0, (fX12_nextBehind (rj_fo (bX12_waitsInOne_6 μ k) 3 0 μ) 0), (rj_fo (bX12_waitsInOne_6 μ k) 3 0 μ))).2.2.2 := (by unfold mX12_waitsInOne; rfl); rw [e3] at hP; exact hP)
theorem aX12_waitsInOne : Cond.arrayClass .int ∈ wsX12_waitsInOne := by decide +kernel
set_option maxHeartbeats 40000000 in
set_option maxRecDepth 100000 in
theorem sX12_waitsInOne {g : rj_G} {ω : rj_W} (hω : rj_ok ω) (μ : rj_M) (kN : Nat) (hkN : ω.1 = kN) (hcr : rj_cr μ) (hq : qX12_waitsInOne (rj_z μ kN) kN) : rj_Sp g yX12_waitsInOne wsX12_waitsInOne (rj_rm 4 1) [.ref (ω.2.2 395)] ω μ (rj_DG ω (some (.int (fX12_waitsInOne (rj_z μ kN) kN))) (mX12_waitsInOne (rj_z μ kN) kN)) := by
  subst hkN
  refine rj_of' (cc := cX12_waitsInOne) (nL := 7) (ret := (some .int)) (own := RX12) (l0 := [(0, .ref (ω.2.2 395))]) rfl (by decide +kernel) rfl (Nat.le_of_ble_eq_true rfl) rfl ?_
  refine rj_iconst (v := 3) dX12_waitsInOne_0 rfl (by decide) ?_
  have h440 := hω.1
  have hlay : rj_lay ω.1 = .inl (0, 3) := by
    unfold rj_lay rj_ly
    rw [if_neg (by omega), if_neg (by omega), if_neg (by omega), if_neg (by omega), if_neg (by omega), if_neg (by omega), if_neg (by omega), if_neg (by omega), if_neg (by omega), if_neg (by omega), if_neg (by omega), if_neg (by omega)]
  refine rj_RI.R (ri_newA (L := fun ad => [(0, .ref (ad 395))]) (ST := fun _ => []) (kd := 0) (N := 3) (K := 1) dX12_waitsInOne_1 rfl aX12_waitsInOne rfl (by decide) rfl (fun ad cA => by simp only [rj_av, rj_z, va_up_self]; rfl) (Nat.le_of_ble_eq_true rfl) (Nat.le_of_ble_eq_true rfl) (Nat.le_of_ble_eq_true rfl) (Nat.le_of_ble_eq_true rfl) (Nat.le_of_ble_eq_true rfl) (hcr.cl hω) (by rw [hω.2]; exact hlay) (fun ad h => by show _ = _; simp only [h 395 (by omega)]) (fun ad h => rfl) (fun ω1 hn1 hs1 ha1 hc1 => ?_))
  have hω1 : rj_ok ω1 := ⟨by omega, by rw [hs1]; exact hω.2⟩
  refine rj_RI.of ?_
  refine rj_astore_n (l' := [(1, .ref (ω1.2.2 ω.1)), (0, .ref (ω1.2.2 395))]) dX12_waitsInOne_3 rfl (rj_bl rfl) rfl ?_
  refine rj_sub (l' := [(0, .ref (ω1.2.2 395)), (1, .ref (ω1.2.2 ω.1))]) [1, 0] rfl ?_
  exact tX12_waitsInOne hω1 (rj_z μ ω.1) ω.1 (by omega) (by rw [hs1, hω.2]; exact hlay) (by decide) hq ⟨rfl, hω1, fun j hj => ha1 j (by omega), rfl⟩
theorem hSX12_waits : yX12_waits.cls ≠ "java/lang/invoke/MethodHandle" ∧ yX12_waits.cls ≠ "java/lang/invoke/VarHandle" ∧ (parseMethodDescriptor yX12_waits.desc).map (fun d => d.parameters.length) = some 1 := by decide +kernel
theorem hVX12_waits : yX12_waits.cls = RX12 ∧ yX12_waits.cls ≠ "java/lang/invoke/MethodHandle" ∧ yX12_waits.cls ≠ "java/lang/invoke/VarHandle" ∧ (parseMethodDescriptor yX12_waits.desc).map (fun d => d.parameters.length) = some 1 := by decide +kernel
theorem vX12_waits_12 : ∀ w ∈ u_ws RX12 TX12 16, w ∈ wsX12_waits := by decide +kernel
theorem kX12_waits_39 : Cond.fieldLink RX12 39 (TX12 0).1 (TX12 0).2.1 (TX12 0).2.2.1 ∈ wsX12_waits := by decide +kernel
noncomputable def fX12_waits (μ : rj_M) (a0 : Int32) (kN : Nat) : Int32 := (if a0 = 0 then (fX12_waitsInLines (rj_pi μ 395 0 0)) else (fX12_waitsInOne (rj_z (rj_pi μ 395 0 0) kN) kN))
noncomputable def mX12_waits (μ : rj_M) (a0 : Int32) (kN : Nat) : rj_M := (if a0 = 0 then (rj_pi μ 395 0 0) else (mX12_waitsInOne (rj_z (rj_pi μ 395 0 0) kN) kN))
noncomputable def qX12_waits (μ : rj_M) (a0 : Int32) (kN : Nat) : Prop := (((a0 = 0) → True) ∧ ((¬ (a0 = 0)) → (rj_cr (rj_pi μ 395 0 0) ∧ qX12_waitsInOne (rj_z (rj_pi μ 395 0 0) kN) kN ∧ True)))
set_option maxHeartbeats 40000000 in
set_option maxRecDepth 100000 in
theorem sX12_waits {g : rj_G} {ω : rj_W} (hω : rj_ok ω) (μ : rj_M) (a0 : Int32) (kN : Nat) (hkN : ω.1 = kN) (hcr : rj_cr μ) (hq : qX12_waits μ a0 kN) : rj_Sp g yX12_waits wsX12_waits (rj_rm 5 1) [.ref (ω.2.2 395), .int a0] ω μ (rj_DG ω (some (.int (fX12_waits μ a0 kN))) (mX12_waits μ a0 kN)) := by
  have hqa := hq
  unfold qX12_waits at hqa
  refine rj_of' (cc := cX12_waits) (nL := 2) (ret := (some .int)) (own := RX12) (l0 := [(0, .ref (ω.2.2 395)), (1, .int a0)]) rfl (by decide +kernel) rfl (Nat.le_of_ble_eq_true rfl) rfl ?_
  refine rj_aload_n 0 dX12_waits_0 rfl rfl ?_
  refine rj_iconst (v := 0) dX12_waits_1 rfl (by decide) ?_
  refine rj_putI (C0 := RX12) (T := TX12) (N := 16) (j := 0) dX12_waits_2 rfl vX12_waits_12 rfl (rj_lt hω (k := 395) rfl) (rj_sh hω ly_395) (by decide) kX12_waits_39 tyX12 tyX12_ok nmX12 rfl rfl rfl rfl ?_
  refine rj_iload_n 1 dX12_waits_5 rfl rfl ?_
  refine rj_if_eq dX12_waits_6 rfl rfl (fun h1 => ?_) (fun h1 => ?_)
  · skip
    refine rj_aload_n 0 dX12_waits_16 rfl rfl ?_
    refine rj_cV (rest := []) (sX12_waitsInLines (g := g) (ω := ω) hω (rj_pi μ 395 0 0)   ) gX12_waits_X12_waitsInLines (rj_lt hω (k := 395) rfl) (rj_sh hω ly_395) rfl rfl hVX12_waitsInLines ⟨Nat.le_of_ble_eq_true rfl, Nat.le_of_ble_eq_true rfl⟩ dX12_waits_17 rfl rfl rfl (Nat.le_of_ble_eq_true rfl) rfl (Nat.le_of_ble_eq_true rfl) rfl ?_
    exact rj_iret dX12_waits_20 rfl (Nat.le_of_ble_eq_true rfl) (Nat.le_of_ble_eq_true rfl) ⟨(by unfold fX12_waits; rw [if_pos h1]; try rfl), hω, fun _ _ => rfl, (by unfold mX12_waits; rw [if_pos h1]; try rfl)⟩
  · have hq2 := (And.right hqa) h1
    refine rj_aload_n 0 dX12_waits_9 rfl rfl ?_
    refine rj_cVg (L := fun ad => [(0, .ref (ad 395)), (1, .int a0)]) (ST := fun ad => []) (av := []) (sX12_waitsInOne (g := g) (ω := ω) hω (rj_pi μ 395 0 0) kN hkN ((And.left hq2)) ((And.left (And.right hq2)))) gX12_waits_X12_waitsInOne (rj_lt hω (k := 395) rfl) (rj_sh hω ly_395) rfl rfl hVX12_waitsInOne ⟨Nat.le_of_ble_eq_true rfl, Nat.le_of_ble_eq_true rfl⟩ dX12_waits_10 rfl rfl (Nat.le_of_ble_eq_true rfl) rfl (Nat.le_of_ble_eq_true rfl) (fun ad h => by show _ = _; simp only [h 395 (by decide)]) (fun ad h => rfl) (fun ω hω hE => ?_)
    refine rj_goto dX12_waits_13 rfl ?_
    exact rj_iret dX12_waits_20 rfl (Nat.le_of_ble_eq_true rfl) (Nat.le_of_ble_eq_true rfl) ⟨(by unfold fX12_waits; rw [if_neg h1]; try rfl), hω, hE, (by unfold mX12_waits; rw [if_neg h1]; try rfl)⟩
theorem hSX12_errors : yX12_errors.cls ≠ "java/lang/invoke/MethodHandle" ∧ yX12_errors.cls ≠ "java/lang/invoke/VarHandle" ∧ (parseMethodDescriptor yX12_errors.desc).map (fun d => d.parameters.length) = some 0 := by decide +kernel
theorem hVX12_errors : yX12_errors.cls = RX12 ∧ yX12_errors.cls ≠ "java/lang/invoke/MethodHandle" ∧ yX12_errors.cls ≠ "java/lang/invoke/VarHandle" ∧ (parseMethodDescriptor yX12_errors.desc).map (fun d => d.parameters.length) = some 0 := by decide +kernel
theorem vX12_errors_12 : ∀ w ∈ u_ws RX12 TX12 16, w ∈ wsX12_errors := by decide +kernel
theorem kX12_errors_39 : Cond.fieldLink RX12 39 (TX12 0).1 (TX12 0).2.1 (TX12 0).2.2.1 ∈ wsX12_errors := by decide +kernel
theorem kX12_errors_9 : Cond.fieldLink RX12 9 (TX12 1).1 (TX12 1).2.1 (TX12 1).2.2.1 ∈ wsX12_errors := by decide +kernel
theorem kX12_errors_124 : Cond.fieldLink RX12 124 (TX12 5).1 (TX12 5).2.1 (TX12 5).2.2.1 ∈ wsX12_errors := by decide +kernel
noncomputable def bX12_errors_42 (μ : rj_M) (kN : Nat) (j42 : Nat) (s42 : Int32) : Int32 := (s42 + ((mX12_lineup (rj_pi μ 395 0 0)).1 396 (500 + (nI j42)).toNatClampNeg))
set_option maxHeartbeats 4000000 in
set_option maxRecDepth 100000 in
theorem lX12_errors_42 {g : rj_G} {ω : rj_W} (hω : rj_ok ω) (μ : rj_M) (kN : Nat)     (h1 : ((fX12_lineup (rj_pi μ 395 0 0)) < 0)) {F : rj_F} : ∀ (r j : Nat) (s : Int32), j + r = 25 → (rj_R g RX12 cX12_errors 6 (some .int) wsX12_errors [] (rj_rm 29 1) F 0 ω (mX12_lineup (rj_pi μ 395 0 0)) [(0, .ref (ω.2.2 395)), (1, .int (fX12_lineup (rj_pi μ 395 0 0))), (2, .int 1), (3, .int (fX12_outByNow (mX12_lineup (rj_pi μ 395 0 0)))), (4, .int (rj_fo (bX12_errors_42 μ kN) r j s)), (5, .int (nI 25))] 71 []) → rj_R g RX12 cX12_errors 6 (some .int) wsX12_errors [] (rj_rm 29 1) F 0 ω (mX12_lineup (rj_pi μ 395 0 0)) [(0, .ref (ω.2.2 395)), (1, .int (fX12_lineup (rj_pi μ 395 0 0))), (2, .int 1), (3, .int (fX12_outByNow (mX12_lineup (rj_pi μ 395 0 0)))), (4, .int s), (5, .int (nI j))] 42 [] := by
  intro r
  induction r with
  | zero =>
    intro j s hj K
    have e0 : j = 25 := by omega
    have hge : 25 ≤ nI j := by
      rw [e0]
      exact Int32.le_refl _
    refine rj_iload 5 dX12_errors_42 rfl rfl ?_
    refine rj_bipush (v := 25) dX12_errors_44 rfl (by decide) ?_
    refine rj_icmp_ge dX12_errors_46 rfl rfl (fun h3 => ?_) (fun h3 => ?_)
    · have e1 : nI j = nI 25 := by rw [e0]
      rw [e1]
      exact K
    · exact absurd hge h3
  | succ r ih =>
    intro j42 s42 hj K
    have hl42 : j42 < 25 := by omega
    have hg42 : ¬ 25 ≤ nI j42 := nI_ge hl42 (rj_bl rfl)
    refine rj_iload 5 dX12_errors_42 rfl rfl ?_
    refine rj_bipush (v := 25) dX12_errors_44 rfl (by decide) ?_
    refine rj_icmp_ge dX12_errors_46 rfl rfl (fun h2 => ?_) (fun h2 => ?_)
    · exact absurd h2 hg42
    · refine rj_iload 4 dX12_errors_49 rfl rfl ?_
      refine rj_aload_n 0 dX12_errors_51 rfl rfl ?_
      refine rj_getR (C0 := RX12) (T := TX12) (N := 16) (j := 1) (r := 396) dX12_errors_52 rfl vX12_errors_12 rfl (rj_lt hω (k := 395) rfl) (rj_sh hω ly_395) (by decide) kX12_errors_9 rfl ?_
      refine rj_sipush (v := 500) dX12_errors_55 rfl (by decide) ?_
      refine rj_iload 5 dX12_errors_58 rfl rfl ?_
      refine rj_iadd dX12_errors_60 rfl ?_
      refine rj_iald dX12_errors_61 rfl (rj_lt hω (k := 396) rfl) (rj_sh hω ly_396) (rj_vle (rj_vadd (N := 525) (vp_in_nI (n := 500) (N := 501) (rj_bl rfl) (rj_bl rfl)) (vp_in_nI (N := 25) hl42 (rj_bl rfl)) rfl rfl) rfl) ?_
      refine rj_iadd dX12_errors_62 rfl ?_
      refine rj_istore (l' := [(4, .int (s42 + ((mX12_lineup (rj_pi μ 395 0 0)).1 396 (500 + (nI j42)).toNatClampNeg))), (0, .ref (ω.2.2 395)), (1, .int (fX12_lineup (rj_pi μ 395 0 0))), (2, .int 1), (3, .int (fX12_outByNow (mX12_lineup (rj_pi μ 395 0 0)))), (5, .int (nI j42))]) dX12_errors_63 rfl (rj_bl rfl) rfl ?_
      refine rj_iinc (v := nI (j42 + 1)) (l' := [(5, .int (nI (j42 + 1))), (4, .int (s42 + ((mX12_lineup (rj_pi μ 395 0 0)).1 396 (500 + (nI j42)).toNatClampNeg))), (0, .ref (ω.2.2 395)), (1, .int (fX12_lineup (rj_pi μ 395 0 0))), (2, .int 1), (3, .int (fX12_outByNow (mX12_lineup (rj_pi μ 395 0 0))))]) 5 dX12_errors_65 rfl rfl (nI_succ j42).symm (rj_bl rfl) rfl ?_
      refine rj_goto dX12_errors_68 rfl ?_
      have e : bX12_errors_42 μ kN j42 s42 = (s42 + ((mX12_lineup (rj_pi μ 395 0 0)).1 396 (500 + (nI j42)).toNatClampNeg)) := by unfold bX12_errors_42; rfl
      exact rj_sub (l' := [(0, .ref (ω.2.2 395)), (1, .int (fX12_lineup (rj_pi μ 395 0 0))), (2, .int 1), (3, .int (fX12_outByNow (mX12_lineup (rj_pi μ 395 0 0)))), (4, .int (s42 + ((mX12_lineup (rj_pi μ 395 0 0)).1 396 (500 + (nI j42)).toNatClampNeg))), (5, .int (nI (j42 + 1)))]) [2, 3, 4, 5, 1, 0] rfl (ih (j42 + 1) (s42 + ((mX12_lineup (rj_pi μ 395 0 0)).1 396 (500 + (nI j42)).toNatClampNeg)) (by omega) (by rw [rj_fo_s, e] at K; exact K))
noncomputable def bX12_errors_42b (μ : rj_M) (kN : Nat) (j42 : Nat) (s42 : Int32) : Int32 := (s42 + ((mX12_lineup (rj_pi μ 395 0 0)).1 396 (500 + (nI j42)).toNatClampNeg))
set_option maxHeartbeats 4000000 in
set_option maxRecDepth 100000 in
theorem lX12_errors_42b {g : rj_G} {ω : rj_W} (hω : rj_ok ω) (μ : rj_M) (kN : Nat)     (h1 : ¬ ((fX12_lineup (rj_pi μ 395 0 0)) < 0)) {F : rj_F} : ∀ (r j : Nat) (s : Int32), j + r = 25 → (rj_R g RX12 cX12_errors 6 (some .int) wsX12_errors [] (rj_rm 29 1) F 0 ω (mX12_lineup (rj_pi μ 395 0 0)) [(0, .ref (ω.2.2 395)), (1, .int (fX12_lineup (rj_pi μ 395 0 0))), (2, .int (if (fX12_bound (mX12_lineup (rj_pi μ 395 0 0))) < ((mX12_lineup (rj_pi μ 395 0 0)).1 395 5) then 1 else 0)), (3, .int (fX12_outByNow (mX12_lineup (rj_pi μ 395 0 0)))), (4, .int (rj_fo (bX12_errors_42b μ kN) r j s)), (5, .int (nI 25))] 71 []) → rj_R g RX12 cX12_errors 6 (some .int) wsX12_errors [] (rj_rm 29 1) F 0 ω (mX12_lineup (rj_pi μ 395 0 0)) [(0, .ref (ω.2.2 395)), (1, .int (fX12_lineup (rj_pi μ 395 0 0))), (2, .int (if (fX12_bound (mX12_lineup (rj_pi μ 395 0 0))) < ((mX12_lineup (rj_pi μ 395 0 0)).1 395 5) then 1 else 0)), (3, .int (fX12_outByNow (mX12_lineup (rj_pi μ 395 0 0)))), (4, .int s), (5, .int (nI j))] 42 [] := by
  intro r
  induction r with
  | zero =>
    intro j s hj K
    have e0 : j = 25 := by omega
    have hge : 25 ≤ nI j := by
      rw [e0]
      exact Int32.le_refl _
    refine rj_iload 5 dX12_errors_42 rfl rfl ?_
    refine rj_bipush (v := 25) dX12_errors_44 rfl (by decide) ?_
    refine rj_icmp_ge dX12_errors_46 rfl rfl (fun h15 => ?_) (fun h15 => ?_)
    · have e1 : nI j = nI 25 := by rw [e0]
      rw [e1]
      exact K
    · exact absurd hge h15
  | succ r ih =>
    intro j42 s42 hj K
    have hl42 : j42 < 25 := by omega
    have hg42 : ¬ 25 ≤ nI j42 := nI_ge hl42 (rj_bl rfl)
    refine rj_iload 5 dX12_errors_42 rfl rfl ?_
    refine rj_bipush (v := 25) dX12_errors_44 rfl (by decide) ?_
    refine rj_icmp_ge dX12_errors_46 rfl rfl (fun h14 => ?_) (fun h14 => ?_)
    · exact absurd h14 hg42
    · refine rj_iload 4 dX12_errors_49 rfl rfl ?_
      refine rj_aload_n 0 dX12_errors_51 rfl rfl ?_
      refine rj_getR (C0 := RX12) (T := TX12) (N := 16) (j := 1) (r := 396) dX12_errors_52 rfl vX12_errors_12 rfl (rj_lt hω (k := 395) rfl) (rj_sh hω ly_395) (by decide) kX12_errors_9 rfl ?_
      refine rj_sipush (v := 500) dX12_errors_55 rfl (by decide) ?_
      refine rj_iload 5 dX12_errors_58 rfl rfl ?_
      refine rj_iadd dX12_errors_60 rfl ?_
      refine rj_iald dX12_errors_61 rfl (rj_lt hω (k := 396) rfl) (rj_sh hω ly_396) (rj_vle (rj_vadd (N := 525) (vp_in_nI (n := 500) (N := 501) (rj_bl rfl) (rj_bl rfl)) (vp_in_nI (N := 25) hl42 (rj_bl rfl)) rfl rfl) rfl) ?_
      refine rj_iadd dX12_errors_62 rfl ?_
      refine rj_istore (l' := [(4, .int (s42 + ((mX12_lineup (rj_pi μ 395 0 0)).1 396 (500 + (nI j42)).toNatClampNeg))), (0, .ref (ω.2.2 395)), (1, .int (fX12_lineup (rj_pi μ 395 0 0))), (2, .int (if (fX12_bound (mX12_lineup (rj_pi μ 395 0 0))) < ((mX12_lineup (rj_pi μ 395 0 0)).1 395 5) then 1 else 0)), (3, .int (fX12_outByNow (mX12_lineup (rj_pi μ 395 0 0)))), (5, .int (nI j42))]) dX12_errors_63 rfl (rj_bl rfl) rfl ?_
      refine rj_iinc (v := nI (j42 + 1)) (l' := [(5, .int (nI (j42 + 1))), (4, .int (s42 + ((mX12_lineup (rj_pi μ 395 0 0)).1 396 (500 + (nI j42)).toNatClampNeg))), (0, .ref (ω.2.2 395)), (1, .int (fX12_lineup (rj_pi μ 395 0 0))), (2, .int (if (fX12_bound (mX12_lineup (rj_pi μ 395 0 0))) < ((mX12_lineup (rj_pi μ 395 0 0)).1 395 5) then 1 else 0)), (3, .int (fX12_outByNow (mX12_lineup (rj_pi μ 395 0 0))))]) 5 dX12_errors_65 rfl rfl (nI_succ j42).symm (rj_bl rfl) rfl ?_
      refine rj_goto dX12_errors_68 rfl ?_
      have e : bX12_errors_42b μ kN j42 s42 = (s42 + ((mX12_lineup (rj_pi μ 395 0 0)).1 396 (500 + (nI j42)).toNatClampNeg)) := by unfold bX12_errors_42b; rfl
      exact rj_sub (l' := [(0, .ref (ω.2.2 395)), (1, .int (fX12_lineup (rj_pi μ 395 0 0))), (2, .int (if (fX12_bound (mX12_lineup (rj_pi μ 395 0 0))) < ((mX12_lineup (rj_pi μ 395 0 0)).1 395 5) then 1 else 0)), (3, .int (fX12_outByNow (mX12_lineup (rj_pi μ 395 0 0)))), (4, .int (s42 + ((mX12_lineup (rj_pi μ 395 0 0)).1 396 (500 + (nI j42)).toNatClampNeg))), (5, .int (nI (j42 + 1)))]) [2, 3, 4, 5, 1, 0] rfl (ih (j42 + 1) (s42 + ((mX12_lineup (rj_pi μ 395 0 0)).1 396 (500 + (nI j42)).toNatClampNeg)) (by omega) (by rw [rj_fo_s, e] at K; exact K))
noncomputable def fX12_errors (μ : rj_M) (kN : Nat) : Int32 := (if (fX12_lineup (rj_pi μ 395 0 0)) < 0 then (if (fX12_outByNow (mX12_lineup (rj_pi μ 395 0 0))) = (-1) then (((((1 + (if (fX12_areEvenings (mX12_lineup (rj_pi μ 395 0 0))) = 0 then 1 else 0)) + 0) + (if (fX12_waitsInLines (mX12_waitsInOne (rj_z (mX12_areEvenings (mX12_lineup (rj_pi μ 395 0 0))) kN) kN)) < (fX12_waitsInOne (rj_z (mX12_areEvenings (mX12_lineup (rj_pi μ 395 0 0))) kN) kN) then 1 else 0)) + (if (fX12_isProved (mX12_waitsInOne (rj_z (mX12_areEvenings (mX12_lineup (rj_pi μ 395 0 0))) kN) kN)) = 0 then 1 else 0)) + (if (rj_fo (bX12_errors_42 μ kN) 25 0 0) = 0 then 0 else 1)) else (((((1 + (if (fX12_areEvenings (mX12_lineup (rj_pi μ 395 0 0))) = 0 then 1 else 0)) + (if (fX12_tooMany (mX12_areEvenings (mX12_lineup (rj_pi μ 395 0 0))) (fX12_outByNow (mX12_lineup (rj_pi μ 395 0 0)))) = 0 then 0 else 1)) + (if (fX12_waitsInLines (mX12_waitsInOne (rj_z (mX12_areEvenings (mX12_lineup (rj_pi μ 395 0 0))) kN) kN)) < (fX12_waitsInOne (rj_z (mX12_areEvenings (mX12_lineup (rj_pi μ 395 0 0))) kN) kN) then 1 else 0)) + (if (fX12_isProved (mX12_waitsInOne (rj_z (mX12_areEvenings (mX12_lineup (rj_pi μ 395 0 0))) kN) kN)) = 0 then 1 else 0)) + (if (rj_fo (bX12_errors_42 μ kN) 25 0 0) = 0 then 0 else 1))) else (if (fX12_outByNow (mX12_lineup (rj_pi μ 395 0 0))) = (-1) then ((((((if (fX12_bound (mX12_lineup (rj_pi μ 395 0 0))) < ((mX12_lineup (rj_pi μ 395 0 0)).1 395 5) then 1 else 0) + (if (fX12_areEvenings (mX12_lineup (rj_pi μ 395 0 0))) = 0 then 1 else 0)) + 0) + (if (fX12_waitsInLines (mX12_waitsInOne (rj_z (mX12_areEvenings (mX12_lineup (rj_pi μ 395 0 0))) kN) kN)) < (fX12_waitsInOne (rj_z (mX12_areEvenings (mX12_lineup (rj_pi μ 395 0 0))) kN) kN) then 1 else 0)) + (if (fX12_isProved (mX12_waitsInOne (rj_z (mX12_areEvenings (mX12_lineup (rj_pi μ 395 0 0))) kN) kN)) = 0 then 1 else 0)) + (if (rj_fo (bX12_errors_42b μ kN) 25 0 0) = 0 then 0 else 1)) else ((((((if (fX12_bound (mX12_lineup (rj_pi μ 395 0 0))) < ((mX12_lineup (rj_pi μ 395 0 0)).1 395 5) then 1 else 0) + (if (fX12_areEvenings (mX12_lineup (rj_pi μ 395 0 0))) = 0 then 1 else 0)) + (if (fX12_tooMany (mX12_areEvenings (mX12_lineup (rj_pi μ 395 0 0))) (fX12_outByNow (mX12_lineup (rj_pi μ 395 0 0)))) = 0 then 0 else 1)) + (if (fX12_waitsInLines (mX12_waitsInOne (rj_z (mX12_areEvenings (mX12_lineup (rj_pi μ 395 0 0))) kN) kN)) < (fX12_waitsInOne (rj_z (mX12_areEvenings (mX12_lineup (rj_pi μ 395 0 0))) kN) kN) then 1 else 0)) + (if (fX12_isProved (mX12_waitsInOne (rj_z (mX12_areEvenings (mX12_lineup (rj_pi μ 395 0 0))) kN) kN)) = 0 then 1 else 0)) + (if (rj_fo (bX12_errors_42b μ kN) 25 0 0) = 0 then 0 else 1))))
noncomputable def mX12_errors (μ : rj_M) (kN : Nat) : rj_M := (if (fX12_lineup (rj_pi μ 395 0 0)) < 0 then (if (fX12_outByNow (mX12_lineup (rj_pi μ 395 0 0))) = (-1) then (mX12_isProved (mX12_waitsInOne (rj_z (mX12_areEvenings (mX12_lineup (rj_pi μ 395 0 0))) kN) kN)) else (mX12_isProved (mX12_waitsInOne (rj_z (mX12_areEvenings (mX12_lineup (rj_pi μ 395 0 0))) kN) kN))) else (if (fX12_outByNow (mX12_lineup (rj_pi μ 395 0 0))) = (-1) then (mX12_isProved (mX12_waitsInOne (rj_z (mX12_areEvenings (mX12_lineup (rj_pi μ 395 0 0))) kN) kN)) else (mX12_isProved (mX12_waitsInOne (rj_z (mX12_areEvenings (mX12_lineup (rj_pi μ 395 0 0))) kN) kN))))
noncomputable def qX12_errors (μ : rj_M) (kN : Nat) : Prop := (qX12_lineup (rj_pi μ 395 0 0) ∧ ((((fX12_lineup (rj_pi μ 395 0 0)) < 0) → (qX12_outByNow (mX12_lineup (rj_pi μ 395 0 0)) ∧ (qX12_areEvenings (mX12_lineup (rj_pi μ 395 0 0)) ∧ ((((fX12_outByNow (mX12_lineup (rj_pi μ 395 0 0))) = (-1)) → (rj_cr (mX12_areEvenings (mX12_lineup (rj_pi μ 395 0 0))) ∧ qX12_waitsInOne (rj_z (mX12_areEvenings (mX12_lineup (rj_pi μ 395 0 0))) kN) kN ∧ qX12_isProved (mX12_waitsInOne (rj_z (mX12_areEvenings (mX12_lineup (rj_pi μ 395 0 0))) kN) kN) ∧ True)) ∧ ((¬ ((fX12_outByNow (mX12_lineup (rj_pi μ 395 0 0))) = (-1))) → (rj_cr (mX12_areEvenings (mX12_lineup (rj_pi μ 395 0 0))) ∧ qX12_waitsInOne (rj_z (mX12_areEvenings (mX12_lineup (rj_pi μ 395 0 0))) kN) kN ∧ qX12_isProved (mX12_waitsInOne (rj_z (mX12_areEvenings (mX12_lineup (rj_pi μ 395 0 0))) kN) kN) ∧ True)))))) ∧ ((¬ ((fX12_lineup (rj_pi μ 395 0 0)) < 0)) → (qX12_bound (mX12_lineup (rj_pi μ 395 0 0)) ∧ qX12_outByNow (mX12_lineup (rj_pi μ 395 0 0)) ∧ (qX12_areEvenings (mX12_lineup (rj_pi μ 395 0 0)) ∧ ((((fX12_outByNow (mX12_lineup (rj_pi μ 395 0 0))) = (-1)) → (rj_cr (mX12_areEvenings (mX12_lineup (rj_pi μ 395 0 0))) ∧ qX12_waitsInOne (rj_z (mX12_areEvenings (mX12_lineup (rj_pi μ 395 0 0))) kN) kN ∧ qX12_isProved (mX12_waitsInOne (rj_z (mX12_areEvenings (mX12_lineup (rj_pi μ 395 0 0))) kN) kN) ∧ True)) ∧ ((¬ ((fX12_outByNow (mX12_lineup (rj_pi μ 395 0 0))) = (-1))) → (rj_cr (mX12_areEvenings (mX12_lineup (rj_pi μ 395 0 0))) ∧ qX12_waitsInOne (rj_z (mX12_areEvenings (mX12_lineup (rj_pi μ 395 0 0))) kN) kN ∧ qX12_isProved (mX12_waitsInOne (rj_z (mX12_areEvenings (mX12_lineup (rj_pi μ 395 0 0))) kN) kN) ∧ True))))))))
set_option maxHeartbeats 40000000 in
set_option maxRecDepth 100000 in
theorem sX12_errors {g : rj_G} {ω : rj_W} (hω : rj_ok ω) (μ : rj_M) (kN : Nat) (hkN : ω.1 = kN) (hcr : rj_cr μ) (hq : qX12_errors μ kN) : rj_Sp g yX12_errors wsX12_errors (rj_rm 29 1) [.ref (ω.2.2 395)] ω μ (rj_DG ω (some (.int (fX12_errors μ kN))) (mX12_errors μ kN)) := by
  have hqa := hq
  unfold qX12_errors at hqa
  refine rj_of' (cc := cX12_errors) (nL := 6) (ret := (some .int)) (own := RX12) (l0 := [(0, .ref (ω.2.2 395))]) rfl (by decide +kernel) rfl (Nat.le_of_ble_eq_true rfl) rfl ?_
  refine rj_aload_n 0 dX12_errors_0 rfl rfl ?_
  refine rj_iconst (v := 0) dX12_errors_1 rfl (by decide) ?_
  refine rj_putI (C0 := RX12) (T := TX12) (N := 16) (j := 0) dX12_errors_2 rfl vX12_errors_12 rfl (rj_lt hω (k := 395) rfl) (rj_sh hω ly_395) (by decide) kX12_errors_39 tyX12 tyX12_ok nmX12 rfl rfl rfl rfl ?_
  refine rj_aload_n 0 dX12_errors_5 rfl rfl ?_
  refine rj_cV (rest := []) (sX12_lineup (g := g) (ω := ω) hω (rj_pi μ 395 0 0)   (And.left hqa)) gX12_errors_X12_lineup (rj_lt hω (k := 395) rfl) (rj_sh hω ly_395) rfl rfl hVX12_lineup ⟨Nat.le_of_ble_eq_true rfl, Nat.le_of_ble_eq_true rfl⟩ dX12_errors_6 rfl rfl rfl (Nat.le_of_ble_eq_true rfl) rfl (Nat.le_of_ble_eq_true rfl) rfl ?_
  refine rj_istore_n (l' := [(1, .int (fX12_lineup (rj_pi μ 395 0 0))), (0, .ref (ω.2.2 395))]) dX12_errors_9 rfl (rj_bl rfl) rfl ?_
  refine rj_iload_n 0 dX12_errors_10 rfl rfl ?_
  refine rj_if_lt dX12_errors_11 rfl rfl (fun h1 => ?_) (fun h1 => ?_)
  · have hq1 := (And.left (And.right hqa)) h1
    refine rj_iconst (v := 1) dX12_errors_29 rfl (by decide) ?_
    refine rj_istore_n (l' := [(2, .int 1), (1, .int (fX12_lineup (rj_pi μ 395 0 0))), (0, .ref (ω.2.2 395))]) dX12_errors_30 rfl (rj_bl rfl) rfl ?_
    refine rj_aload_n 2 dX12_errors_31 rfl rfl ?_
    refine rj_cV (rest := []) (sX12_outByNow (g := g) (ω := ω) hω (mX12_lineup (rj_pi μ 395 0 0))   (And.left hq1)) gX12_errors_X12_outByNow (rj_lt hω (k := 395) rfl) (rj_sh hω ly_395) rfl rfl hVX12_outByNow ⟨Nat.le_of_ble_eq_true rfl, Nat.le_of_ble_eq_true rfl⟩ dX12_errors_32 rfl rfl rfl (Nat.le_of_ble_eq_true rfl) rfl (Nat.le_of_ble_eq_true rfl) rfl ?_
    refine rj_istore_n (l' := [(3, .int (fX12_outByNow (mX12_lineup (rj_pi μ 395 0 0)))), (2, .int 1), (1, .int (fX12_lineup (rj_pi μ 395 0 0))), (0, .ref (ω.2.2 395))]) dX12_errors_35 rfl (rj_bl rfl) rfl ?_
    refine rj_iconst (v := 0) dX12_errors_36 rfl (by decide) ?_
    refine rj_istore (l' := [(4, .int 0), (3, .int (fX12_outByNow (mX12_lineup (rj_pi μ 395 0 0)))), (2, .int 1), (1, .int (fX12_lineup (rj_pi μ 395 0 0))), (0, .ref (ω.2.2 395))]) dX12_errors_37 rfl (rj_bl rfl) rfl ?_
    refine rj_iconst (v := 0) dX12_errors_39 rfl (by decide) ?_
    refine rj_istore (l' := [(5, .int 0), (4, .int 0), (3, .int (fX12_outByNow (mX12_lineup (rj_pi μ 395 0 0)))), (2, .int 1), (1, .int (fX12_lineup (rj_pi μ 395 0 0))), (0, .ref (ω.2.2 395))]) dX12_errors_40 rfl (rj_bl rfl) rfl ?_
    refine rj_sub (l' := [(0, .ref (ω.2.2 395)), (1, .int (fX12_lineup (rj_pi μ 395 0 0))), (2, .int 1), (3, .int (fX12_outByNow (mX12_lineup (rj_pi μ 395 0 0)))), (4, .int 0), (5, .int (nI 0))]) [5, 4, 3, 2, 1, 0] rfl ?_
    refine lX12_errors_42 hω μ kN     h1 25 0 0 rfl ?_
    refine rj_iload_n 2 dX12_errors_71 rfl rfl ?_
    refine rj_aload_n 0 dX12_errors_72 rfl rfl ?_
    refine rj_cV (rest := [.int 1]) (sX12_areEvenings (g := g) (ω := ω) hω (mX12_lineup (rj_pi μ 395 0 0))   (And.left (And.right hq1))) gX12_errors_X12_areEvenings (rj_lt hω (k := 395) rfl) (rj_sh hω ly_395) rfl rfl hVX12_areEvenings ⟨Nat.le_of_ble_eq_true rfl, Nat.le_of_ble_eq_true rfl⟩ dX12_errors_73 rfl rfl rfl (Nat.le_of_ble_eq_true rfl) rfl (Nat.le_of_ble_eq_true rfl) rfl ?_
    refine rj_join (c := (fX12_areEvenings (mX12_lineup (rj_pi μ 395 0 0))) = 0) (a := 1) (b := 0) (J := 84) (st2 := [.int 1]) (fun k1 k2 => ?_) ?_
    · refine rj_if_eq dX12_errors_76 rfl rfl (fun h4 => ?_) (fun h4 => ?_)
      · refine rj_iconst (v := 1) dX12_errors_83 rfl (by decide) ?_
        exact k1 h4
      · refine rj_iconst (v := 0) dX12_errors_79 rfl (by decide) ?_
        refine rj_goto dX12_errors_80 rfl ?_
        exact k2 h4
    refine rj_iadd dX12_errors_84 rfl ?_
    refine rj_istore_n (l' := [(2, .int (1 + (if (fX12_areEvenings (mX12_lineup (rj_pi μ 395 0 0))) = 0 then 1 else 0))), (0, .ref (ω.2.2 395)), (1, .int (fX12_lineup (rj_pi μ 395 0 0))), (3, .int (fX12_outByNow (mX12_lineup (rj_pi μ 395 0 0)))), (4, .int (rj_fo (bX12_errors_42 μ kN) 25 0 0)), (5, .int (nI 25))]) dX12_errors_85 rfl (rj_bl rfl) rfl ?_
    refine rj_iload_n 0 dX12_errors_86 rfl rfl ?_
    refine rj_iload_n 3 dX12_errors_87 rfl rfl ?_
    refine rj_iconst (v := (-1)) dX12_errors_88 rfl (by decide) ?_
    refine rj_icmp_eq dX12_errors_89 rfl rfl (fun h5 => ?_) (fun h5 => ?_)
    · have hq2 := (And.left (And.right (And.right hq1))) h5
      refine rj_iconst (v := 0) dX12_errors_100 rfl (by decide) ?_
      refine rj_goto dX12_errors_101 rfl ?_
      refine rj_iadd dX12_errors_105 rfl ?_
      refine rj_istore_n (l' := [(2, .int ((1 + (if (fX12_areEvenings (mX12_lineup (rj_pi μ 395 0 0))) = 0 then 1 else 0)) + 0)), (0, .ref (ω.2.2 395)), (1, .int (fX12_lineup (rj_pi μ 395 0 0))), (3, .int (fX12_outByNow (mX12_lineup (rj_pi μ 395 0 0)))), (4, .int (rj_fo (bX12_errors_42 μ kN) 25 0 0)), (5, .int (nI 25))]) dX12_errors_106 rfl (rj_bl rfl) rfl ?_
      refine rj_iload_n 0 dX12_errors_107 rfl rfl ?_
      refine rj_aload_n 1 dX12_errors_108 rfl rfl ?_
      refine rj_cVg (L := fun ad => [(2, .int ((1 + (if (fX12_areEvenings (mX12_lineup (rj_pi μ 395 0 0))) = 0 then 1 else 0)) + 0)), (0, .ref (ad 395)), (1, .int (fX12_lineup (rj_pi μ 395 0 0))), (3, .int (fX12_outByNow (mX12_lineup (rj_pi μ 395 0 0)))), (4, .int (rj_fo (bX12_errors_42 μ kN) 25 0 0)), (5, .int (nI 25))]) (ST := fun ad => [.int ((1 + (if (fX12_areEvenings (mX12_lineup (rj_pi μ 395 0 0))) = 0 then 1 else 0)) + 0)]) (av := []) (sX12_waitsInOne (g := g) (ω := ω) hω (mX12_areEvenings (mX12_lineup (rj_pi μ 395 0 0))) kN hkN ((And.left hq2)) ((And.left (And.right hq2)))) gX12_errors_X12_waitsInOne (rj_lt hω (k := 395) rfl) (rj_sh hω ly_395) rfl rfl hVX12_waitsInOne ⟨Nat.le_of_ble_eq_true rfl, Nat.le_of_ble_eq_true rfl⟩ dX12_errors_109 rfl rfl (Nat.le_of_ble_eq_true rfl) rfl (Nat.le_of_ble_eq_true rfl) (fun ad h => by show _ = _; simp only [h 395 (by decide)]) (fun ad h => rfl) (fun ω hω hE => ?_)
      refine rj_aload_n 1 dX12_errors_112 rfl rfl ?_
      refine rj_cV (rest := [.int (fX12_waitsInOne (rj_z (mX12_areEvenings (mX12_lineup (rj_pi μ 395 0 0))) kN) kN), .int ((1 + (if (fX12_areEvenings (mX12_lineup (rj_pi μ 395 0 0))) = 0 then 1 else 0)) + 0)]) (sX12_waitsInLines (g := g) (ω := ω) hω (mX12_waitsInOne (rj_z (mX12_areEvenings (mX12_lineup (rj_pi μ 395 0 0))) kN) kN)   ) gX12_errors_X12_waitsInLines (rj_lt hω (k := 395) rfl) (rj_sh hω ly_395) rfl rfl hVX12_waitsInLines ⟨Nat.le_of_ble_eq_true rfl, Nat.le_of_ble_eq_true rfl⟩ dX12_errors_113 rfl rfl rfl (Nat.le_of_ble_eq_true rfl) rfl (Nat.le_of_ble_eq_true rfl) rfl ?_
      refine rj_join (c := (fX12_waitsInLines (mX12_waitsInOne (rj_z (mX12_areEvenings (mX12_lineup (rj_pi μ 395 0 0))) kN) kN)) < (fX12_waitsInOne (rj_z (mX12_areEvenings (mX12_lineup (rj_pi μ 395 0 0))) kN) kN)) (a := 1) (b := 0) (J := 124) (st2 := [.int ((1 + (if (fX12_areEvenings (mX12_lineup (rj_pi μ 395 0 0))) = 0 then 1 else 0)) + 0)]) (fun k1 k2 => ?_) ?_
      · refine rj_icmp_gt dX12_errors_116 rfl rfl (fun h6 => ?_) (fun h6 => ?_)
        · refine rj_iconst (v := 1) dX12_errors_123 rfl (by decide) ?_
          exact k1 h6
        · refine rj_iconst (v := 0) dX12_errors_119 rfl (by decide) ?_
          refine rj_goto dX12_errors_120 rfl ?_
          exact k2 h6
      refine rj_iadd dX12_errors_124 rfl ?_
      refine rj_istore_n (l' := [(2, .int (((1 + (if (fX12_areEvenings (mX12_lineup (rj_pi μ 395 0 0))) = 0 then 1 else 0)) + 0) + (if (fX12_waitsInLines (mX12_waitsInOne (rj_z (mX12_areEvenings (mX12_lineup (rj_pi μ 395 0 0))) kN) kN)) < (fX12_waitsInOne (rj_z (mX12_areEvenings (mX12_lineup (rj_pi μ 395 0 0))) kN) kN) then 1 else 0))), (0, .ref (ω.2.2 395)), (1, .int (fX12_lineup (rj_pi μ 395 0 0))), (3, .int (fX12_outByNow (mX12_lineup (rj_pi μ 395 0 0)))), (4, .int (rj_fo (bX12_errors_42 μ kN) 25 0 0)), (5, .int (nI 25))]) dX12_errors_125 rfl (rj_bl rfl) rfl ?_
      refine rj_iload_n 0 dX12_errors_126 rfl rfl ?_
      refine rj_aload_n 1 dX12_errors_127 rfl rfl ?_
      refine rj_cV (rest := [.int (((1 + (if (fX12_areEvenings (mX12_lineup (rj_pi μ 395 0 0))) = 0 then 1 else 0)) + 0) + (if (fX12_waitsInLines (mX12_waitsInOne (rj_z (mX12_areEvenings (mX12_lineup (rj_pi μ 395 0 0))) kN) kN)) < (fX12_waitsInOne (rj_z (mX12_areEvenings (mX12_lineup (rj_pi μ 395 0 0))) kN) kN) then 1 else 0))]) (sX12_isProved (g := g) (ω := ω) hω (mX12_waitsInOne (rj_z (mX12_areEvenings (mX12_lineup (rj_pi μ 395 0 0))) kN) kN)   (And.left (And.right (And.right hq2)))) gX12_errors_X12_isProved (rj_lt hω (k := 395) rfl) (rj_sh hω ly_395) rfl rfl hVX12_isProved ⟨Nat.le_of_ble_eq_true rfl, Nat.le_of_ble_eq_true rfl⟩ dX12_errors_128 rfl rfl rfl (Nat.le_of_ble_eq_true rfl) rfl (Nat.le_of_ble_eq_true rfl) rfl ?_
      refine rj_join (c := (fX12_isProved (mX12_waitsInOne (rj_z (mX12_areEvenings (mX12_lineup (rj_pi μ 395 0 0))) kN) kN)) = 0) (a := 1) (b := 0) (J := 139) (st2 := [.int (((1 + (if (fX12_areEvenings (mX12_lineup (rj_pi μ 395 0 0))) = 0 then 1 else 0)) + 0) + (if (fX12_waitsInLines (mX12_waitsInOne (rj_z (mX12_areEvenings (mX12_lineup (rj_pi μ 395 0 0))) kN) kN)) < (fX12_waitsInOne (rj_z (mX12_areEvenings (mX12_lineup (rj_pi μ 395 0 0))) kN) kN) then 1 else 0))]) (fun k1 k2 => ?_) ?_
      · refine rj_if_eq dX12_errors_131 rfl rfl (fun h7 => ?_) (fun h7 => ?_)
        · refine rj_iconst (v := 1) dX12_errors_138 rfl (by decide) ?_
          exact k1 h7
        · refine rj_iconst (v := 0) dX12_errors_134 rfl (by decide) ?_
          refine rj_goto dX12_errors_135 rfl ?_
          exact k2 h7
      refine rj_iadd dX12_errors_139 rfl ?_
      refine rj_istore_n (l' := [(2, .int ((((1 + (if (fX12_areEvenings (mX12_lineup (rj_pi μ 395 0 0))) = 0 then 1 else 0)) + 0) + (if (fX12_waitsInLines (mX12_waitsInOne (rj_z (mX12_areEvenings (mX12_lineup (rj_pi μ 395 0 0))) kN) kN)) < (fX12_waitsInOne (rj_z (mX12_areEvenings (mX12_lineup (rj_pi μ 395 0 0))) kN) kN) then 1 else 0)) + (if (fX12_isProved (mX12_waitsInOne (rj_z (mX12_areEvenings (mX12_lineup (rj_pi μ 395 0 0))) kN) kN)) = 0 then 1 else 0))), (0, .ref (ω.2.2 395)), (1, .int (fX12_lineup (rj_pi μ 395 0 0))), (3, .int (fX12_outByNow (mX12_lineup (rj_pi μ 395 0 0)))), (4, .int (rj_fo (bX12_errors_42 μ kN) 25 0 0)), (5, .int (nI 25))]) dX12_errors_140 rfl (rj_bl rfl) rfl ?_
      refine rj_iload_n 0 dX12_errors_141 rfl rfl ?_
      refine rj_iload 4 dX12_errors_142 rfl rfl ?_
      refine rj_join (c := (rj_fo (bX12_errors_42 μ kN) 25 0 0) = 0) (a := 0) (b := 1) (J := 152) (st2 := [.int ((((1 + (if (fX12_areEvenings (mX12_lineup (rj_pi μ 395 0 0))) = 0 then 1 else 0)) + 0) + (if (fX12_waitsInLines (mX12_waitsInOne (rj_z (mX12_areEvenings (mX12_lineup (rj_pi μ 395 0 0))) kN) kN)) < (fX12_waitsInOne (rj_z (mX12_areEvenings (mX12_lineup (rj_pi μ 395 0 0))) kN) kN) then 1 else 0)) + (if (fX12_isProved (mX12_waitsInOne (rj_z (mX12_areEvenings (mX12_lineup (rj_pi μ 395 0 0))) kN) kN)) = 0 then 1 else 0))]) (fun k1 k2 => ?_) ?_
      · refine rj_if_ne dX12_errors_144 rfl rfl (fun h8 => ?_) (fun h8 => ?_)
        · refine rj_iconst (v := 1) dX12_errors_151 rfl (by decide) ?_
          exact k2 h8
        · refine rj_iconst (v := 0) dX12_errors_147 rfl (by decide) ?_
          refine rj_goto dX12_errors_148 rfl ?_
          exact k1 h8
      refine rj_iadd dX12_errors_152 rfl ?_
      exact rj_iret dX12_errors_153 rfl (Nat.le_of_ble_eq_true rfl) (Nat.le_of_ble_eq_true rfl) ⟨(by unfold fX12_errors; rw [if_pos h1]; rw [if_pos h5]; try rfl), hω, hE, (by unfold mX12_errors; rw [if_pos h1]; rw [if_pos h5]; try rfl)⟩
    · have hq3 := (And.right (And.right (And.right hq1))) h5
      refine rj_aload_n 1 dX12_errors_92 rfl rfl ?_
      refine rj_iload_n 3 dX12_errors_93 rfl rfl ?_
      refine rj_cV (rest := [.int (1 + (if (fX12_areEvenings (mX12_lineup (rj_pi μ 395 0 0))) = 0 then 1 else 0))]) (sX12_tooMany (g := g) (ω := ω) hω (mX12_areEvenings (mX12_lineup (rj_pi μ 395 0 0))) (fX12_outByNow (mX12_lineup (rj_pi μ 395 0 0)))   ) gX12_errors_X12_tooMany (rj_lt hω (k := 395) rfl) (rj_sh hω ly_395) rfl rfl hVX12_tooMany ⟨Nat.le_of_ble_eq_true rfl, Nat.le_of_ble_eq_true rfl⟩ dX12_errors_94 rfl rfl rfl (Nat.le_of_ble_eq_true rfl) rfl (Nat.le_of_ble_eq_true rfl) rfl ?_
      refine rj_join (c := (fX12_tooMany (mX12_areEvenings (mX12_lineup (rj_pi μ 395 0 0))) (fX12_outByNow (mX12_lineup (rj_pi μ 395 0 0)))) = 0) (a := 0) (b := 1) (J := 105) (st2 := [.int (1 + (if (fX12_areEvenings (mX12_lineup (rj_pi μ 395 0 0))) = 0 then 1 else 0))]) (fun k1 k2 => ?_) ?_
      · refine rj_if_ne dX12_errors_97 rfl rfl (fun h9 => ?_) (fun h9 => ?_)
        · refine rj_iconst (v := 1) dX12_errors_104 rfl (by decide) ?_
          exact k2 h9
        · refine rj_iconst (v := 0) dX12_errors_100 rfl (by decide) ?_
          refine rj_goto dX12_errors_101 rfl ?_
          exact k1 h9
      refine rj_iadd dX12_errors_105 rfl ?_
      refine rj_istore_n (l' := [(2, .int ((1 + (if (fX12_areEvenings (mX12_lineup (rj_pi μ 395 0 0))) = 0 then 1 else 0)) + (if (fX12_tooMany (mX12_areEvenings (mX12_lineup (rj_pi μ 395 0 0))) (fX12_outByNow (mX12_lineup (rj_pi μ 395 0 0)))) = 0 then 0 else 1))), (0, .ref (ω.2.2 395)), (1, .int (fX12_lineup (rj_pi μ 395 0 0))), (3, .int (fX12_outByNow (mX12_lineup (rj_pi μ 395 0 0)))), (4, .int (rj_fo (bX12_errors_42 μ kN) 25 0 0)), (5, .int (nI 25))]) dX12_errors_106 rfl (rj_bl rfl) rfl ?_
      refine rj_iload_n 0 dX12_errors_107 rfl rfl ?_
      refine rj_aload_n 1 dX12_errors_108 rfl rfl ?_
      refine rj_cVg (L := fun ad => [(2, .int ((1 + (if (fX12_areEvenings (mX12_lineup (rj_pi μ 395 0 0))) = 0 then 1 else 0)) + (if (fX12_tooMany (mX12_areEvenings (mX12_lineup (rj_pi μ 395 0 0))) (fX12_outByNow (mX12_lineup (rj_pi μ 395 0 0)))) = 0 then 0 else 1))), (0, .ref (ad 395)), (1, .int (fX12_lineup (rj_pi μ 395 0 0))), (3, .int (fX12_outByNow (mX12_lineup (rj_pi μ 395 0 0)))), (4, .int (rj_fo (bX12_errors_42 μ kN) 25 0 0)), (5, .int (nI 25))]) (ST := fun ad => [.int ((1 + (if (fX12_areEvenings (mX12_lineup (rj_pi μ 395 0 0))) = 0 then 1 else 0)) + (if (fX12_tooMany (mX12_areEvenings (mX12_lineup (rj_pi μ 395 0 0))) (fX12_outByNow (mX12_lineup (rj_pi μ 395 0 0)))) = 0 then 0 else 1))]) (av := []) (sX12_waitsInOne (g := g) (ω := ω) hω (mX12_areEvenings (mX12_lineup (rj_pi μ 395 0 0))) kN hkN ((And.left hq3)) ((And.left (And.right hq3)))) gX12_errors_X12_waitsInOne (rj_lt hω (k := 395) rfl) (rj_sh hω ly_395) rfl rfl hVX12_waitsInOne ⟨Nat.le_of_ble_eq_true rfl, Nat.le_of_ble_eq_true rfl⟩ dX12_errors_109 rfl rfl (Nat.le_of_ble_eq_true rfl) rfl (Nat.le_of_ble_eq_true rfl) (fun ad h => by show _ = _; simp only [h 395 (by decide)]) (fun ad h => rfl) (fun ω hω hE => ?_)
      refine rj_aload_n 1 dX12_errors_112 rfl rfl ?_
      refine rj_cV (rest := [.int (fX12_waitsInOne (rj_z (mX12_areEvenings (mX12_lineup (rj_pi μ 395 0 0))) kN) kN), .int ((1 + (if (fX12_areEvenings (mX12_lineup (rj_pi μ 395 0 0))) = 0 then 1 else 0)) + (if (fX12_tooMany (mX12_areEvenings (mX12_lineup (rj_pi μ 395 0 0))) (fX12_outByNow (mX12_lineup (rj_pi μ 395 0 0)))) = 0 then 0 else 1))]) (sX12_waitsInLines (g := g) (ω := ω) hω (mX12_waitsInOne (rj_z (mX12_areEvenings (mX12_lineup (rj_pi μ 395 0 0))) kN) kN)   ) gX12_errors_X12_waitsInLines (rj_lt hω (k := 395) rfl) (rj_sh hω ly_395) rfl rfl hVX12_waitsInLines ⟨Nat.le_of_ble_eq_true rfl, Nat.le_of_ble_eq_true rfl⟩ dX12_errors_113 rfl rfl rfl (Nat.le_of_ble_eq_true rfl) rfl (Nat.le_of_ble_eq_true rfl) rfl ?_
      refine rj_join (c := (fX12_waitsInLines (mX12_waitsInOne (rj_z (mX12_areEvenings (mX12_lineup (rj_pi μ 395 0 0))) kN) kN)) < (fX12_waitsInOne (rj_z (mX12_areEvenings (mX12_lineup (rj_pi μ 395 0 0))) kN) kN)) (a := 1) (b := 0) (J := 124) (st2 := [.int ((1 + (if (fX12_areEvenings (mX12_lineup (rj_pi μ 395 0 0))) = 0 then 1 else 0)) + (if (fX12_tooMany (mX12_areEvenings (mX12_lineup (rj_pi μ 395 0 0))) (fX12_outByNow (mX12_lineup (rj_pi μ 395 0 0)))) = 0 then 0 else 1))]) (fun k1 k2 => ?_) ?_
      · refine rj_icmp_gt dX12_errors_116 rfl rfl (fun h10 => ?_) (fun h10 => ?_)
        · refine rj_iconst (v := 1) dX12_errors_123 rfl (by decide) ?_
          exact k1 h10
        · refine rj_iconst (v := 0) dX12_errors_119 rfl (by decide) ?_
          refine rj_goto dX12_errors_120 rfl ?_
          exact k2 h10
      refine rj_iadd dX12_errors_124 rfl ?_
      refine rj_istore_n (l' := [(2, .int (((1 + (if (fX12_areEvenings (mX12_lineup (rj_pi μ 395 0 0))) = 0 then 1 else 0)) + (if (fX12_tooMany (mX12_areEvenings (mX12_lineup (rj_pi μ 395 0 0))) (fX12_outByNow (mX12_lineup (rj_pi μ 395 0 0)))) = 0 then 0 else 1)) + (if (fX12_waitsInLines (mX12_waitsInOne (rj_z (mX12_areEvenings (mX12_lineup (rj_pi μ 395 0 0))) kN) kN)) < (fX12_waitsInOne (rj_z (mX12_areEvenings (mX12_lineup (rj_pi μ 395 0 0))) kN) kN) then 1 else 0))), (0, .ref (ω.2.2 395)), (1, .int (fX12_lineup (rj_pi μ 395 0 0))), (3, .int (fX12_outByNow (mX12_lineup (rj_pi μ 395 0 0)))), (4, .int (rj_fo (bX12_errors_42 μ kN) 25 0 0)), (5, .int (nI 25))]) dX12_errors_125 rfl (rj_bl rfl) rfl ?_
      refine rj_iload_n 0 dX12_errors_126 rfl rfl ?_
      refine rj_aload_n 1 dX12_errors_127 rfl rfl ?_
      refine rj_cV (rest := [.int (((1 + (if (fX12_areEvenings (mX12_lineup (rj_pi μ 395 0 0))) = 0 then 1 else 0)) + (if (fX12_tooMany (mX12_areEvenings (mX12_lineup (rj_pi μ 395 0 0))) (fX12_outByNow (mX12_lineup (rj_pi μ 395 0 0)))) = 0 then 0 else 1)) + (if (fX12_waitsInLines (mX12_waitsInOne (rj_z (mX12_areEvenings (mX12_lineup (rj_pi μ 395 0 0))) kN) kN)) < (fX12_waitsInOne (rj_z (mX12_areEvenings (mX12_lineup (rj_pi μ 395 0 0))) kN) kN) then 1 else 0))]) (sX12_isProved (g := g) (ω := ω) hω (mX12_waitsInOne (rj_z (mX12_areEvenings (mX12_lineup (rj_pi μ 395 0 0))) kN) kN)   (And.left (And.right (And.right hq3)))) gX12_errors_X12_isProved (rj_lt hω (k := 395) rfl) (rj_sh hω ly_395) rfl rfl hVX12_isProved ⟨Nat.le_of_ble_eq_true rfl, Nat.le_of_ble_eq_true rfl⟩ dX12_errors_128 rfl rfl rfl (Nat.le_of_ble_eq_true rfl) rfl (Nat.le_of_ble_eq_true rfl) rfl ?_
      refine rj_join (c := (fX12_isProved (mX12_waitsInOne (rj_z (mX12_areEvenings (mX12_lineup (rj_pi μ 395 0 0))) kN) kN)) = 0) (a := 1) (b := 0) (J := 139) (st2 := [.int (((1 + (if (fX12_areEvenings (mX12_lineup (rj_pi μ 395 0 0))) = 0 then 1 else 0)) + (if (fX12_tooMany (mX12_areEvenings (mX12_lineup (rj_pi μ 395 0 0))) (fX12_outByNow (mX12_lineup (rj_pi μ 395 0 0)))) = 0 then 0 else 1)) + (if (fX12_waitsInLines (mX12_waitsInOne (rj_z (mX12_areEvenings (mX12_lineup (rj_pi μ 395 0 0))) kN) kN)) < (fX12_waitsInOne (rj_z (mX12_areEvenings (mX12_lineup (rj_pi μ 395 0 0))) kN) kN) then 1 else 0))]) (fun k1 k2 => ?_) ?_
      · refine rj_if_eq dX12_errors_131 rfl rfl (fun h11 => ?_) (fun h11 => ?_)
        · refine rj_iconst (v := 1) dX12_errors_138 rfl (by decide) ?_
          exact k1 h11
        · refine rj_iconst (v := 0) dX12_errors_134 rfl (by decide) ?_
          refine rj_goto dX12_errors_135 rfl ?_
          exact k2 h11
      refine rj_iadd dX12_errors_139 rfl ?_
      refine rj_istore_n (l' := [(2, .int ((((1 + (if (fX12_areEvenings (mX12_lineup (rj_pi μ 395 0 0))) = 0 then 1 else 0)) + (if (fX12_tooMany (mX12_areEvenings (mX12_lineup (rj_pi μ 395 0 0))) (fX12_outByNow (mX12_lineup (rj_pi μ 395 0 0)))) = 0 then 0 else 1)) + (if (fX12_waitsInLines (mX12_waitsInOne (rj_z (mX12_areEvenings (mX12_lineup (rj_pi μ 395 0 0))) kN) kN)) < (fX12_waitsInOne (rj_z (mX12_areEvenings (mX12_lineup (rj_pi μ 395 0 0))) kN) kN) then 1 else 0)) + (if (fX12_isProved (mX12_waitsInOne (rj_z (mX12_areEvenings (mX12_lineup (rj_pi μ 395 0 0))) kN) kN)) = 0 then 1 else 0))), (0, .ref (ω.2.2 395)), (1, .int (fX12_lineup (rj_pi μ 395 0 0))), (3, .int (fX12_outByNow (mX12_lineup (rj_pi μ 395 0 0)))), (4, .int (rj_fo (bX12_errors_42 μ kN) 25 0 0)), (5, .int (nI 25))]) dX12_errors_140 rfl (rj_bl rfl) rfl ?_
      refine rj_iload_n 0 dX12_errors_141 rfl rfl ?_
      refine rj_iload 4 dX12_errors_142 rfl rfl ?_
      refine rj_join (c := (rj_fo (bX12_errors_42 μ kN) 25 0 0) = 0) (a := 0) (b := 1) (J := 152) (st2 := [.int ((((1 + (if (fX12_areEvenings (mX12_lineup (rj_pi μ 395 0 0))) = 0 then 1 else 0)) + (if (fX12_tooMany (mX12_areEvenings (mX12_lineup (rj_pi μ 395 0 0))) (fX12_outByNow (mX12_lineup (rj_pi μ 395 0 0)))) = 0 then 0 else 1)) + (if (fX12_waitsInLines (mX12_waitsInOne (rj_z (mX12_areEvenings (mX12_lineup (rj_pi μ 395 0 0))) kN) kN)) < (fX12_waitsInOne (rj_z (mX12_areEvenings (mX12_lineup (rj_pi μ 395 0 0))) kN) kN) then 1 else 0)) + (if (fX12_isProved (mX12_waitsInOne (rj_z (mX12_areEvenings (mX12_lineup (rj_pi μ 395 0 0))) kN) kN)) = 0 then 1 else 0))]) (fun k1 k2 => ?_) ?_
      · refine rj_if_ne dX12_errors_144 rfl rfl (fun h12 => ?_) (fun h12 => ?_)
        · refine rj_iconst (v := 1) dX12_errors_151 rfl (by decide) ?_
          exact k2 h12
        · refine rj_iconst (v := 0) dX12_errors_147 rfl (by decide) ?_
          refine rj_goto dX12_errors_148 rfl ?_
          exact k1 h12
      refine rj_iadd dX12_errors_152 rfl ?_
      exact rj_iret dX12_errors_153 rfl (Nat.le_of_ble_eq_true rfl) (Nat.le_of_ble_eq_true rfl) ⟨(by unfold fX12_errors; rw [if_pos h1]; rw [if_neg h5]; try rfl), hω, hE, (by unfold mX12_errors; rw [if_pos h1]; rw [if_neg h5]; try rfl)⟩
  · have hq4 := (And.right (And.right hqa)) h1
    refine rj_aload_n 1 dX12_errors_14 rfl rfl ?_
    refine rj_getI (C0 := RX12) (T := TX12) (N := 16) (j := 5) dX12_errors_15 rfl vX12_errors_12 rfl (rj_lt hω (k := 395) rfl) (rj_sh hω ly_395) (by decide) kX12_errors_124 rfl ?_
    refine rj_aload_n 1 dX12_errors_18 rfl rfl ?_
    refine rj_cV (rest := [.int ((mX12_lineup (rj_pi μ 395 0 0)).1 395 5)]) (sX12_bound (g := g) (ω := ω) hω (mX12_lineup (rj_pi μ 395 0 0))   (And.left hq4)) gX12_errors_X12_bound (rj_lt hω (k := 395) rfl) (rj_sh hω ly_395) rfl rfl hVX12_bound ⟨Nat.le_of_ble_eq_true rfl, Nat.le_of_ble_eq_true rfl⟩ dX12_errors_19 rfl rfl rfl (Nat.le_of_ble_eq_true rfl) rfl (Nat.le_of_ble_eq_true rfl) rfl ?_
    refine rj_join (c := (fX12_bound (mX12_lineup (rj_pi μ 395 0 0))) < ((mX12_lineup (rj_pi μ 395 0 0)).1 395 5)) (a := 1) (b := 0) (J := 30) (st2 := []) (fun k1 k2 => ?_) ?_
    · refine rj_icmp_gt dX12_errors_22 rfl rfl (fun h13 => ?_) (fun h13 => ?_)
      · refine rj_iconst (v := 1) dX12_errors_29 rfl (by decide) ?_
        exact k1 h13
      · refine rj_iconst (v := 0) dX12_errors_25 rfl (by decide) ?_
        refine rj_goto dX12_errors_26 rfl ?_
        exact k2 h13
    refine rj_istore_n (l' := [(2, .int (if (fX12_bound (mX12_lineup (rj_pi μ 395 0 0))) < ((mX12_lineup (rj_pi μ 395 0 0)).1 395 5) then 1 else 0)), (1, .int (fX12_lineup (rj_pi μ 395 0 0))), (0, .ref (ω.2.2 395))]) dX12_errors_30 rfl (rj_bl rfl) rfl ?_
    refine rj_aload_n 2 dX12_errors_31 rfl rfl ?_
    refine rj_cV (rest := []) (sX12_outByNow (g := g) (ω := ω) hω (mX12_lineup (rj_pi μ 395 0 0))   (And.left (And.right hq4))) gX12_errors_X12_outByNow (rj_lt hω (k := 395) rfl) (rj_sh hω ly_395) rfl rfl hVX12_outByNow ⟨Nat.le_of_ble_eq_true rfl, Nat.le_of_ble_eq_true rfl⟩ dX12_errors_32 rfl rfl rfl (Nat.le_of_ble_eq_true rfl) rfl (Nat.le_of_ble_eq_true rfl) rfl ?_
    refine rj_istore_n (l' := [(3, .int (fX12_outByNow (mX12_lineup (rj_pi μ 395 0 0)))), (2, .int (if (fX12_bound (mX12_lineup (rj_pi μ 395 0 0))) < ((mX12_lineup (rj_pi μ 395 0 0)).1 395 5) then 1 else 0)), (1, .int (fX12_lineup (rj_pi μ 395 0 0))), (0, .ref (ω.2.2 395))]) dX12_errors_35 rfl (rj_bl rfl) rfl ?_
    refine rj_iconst (v := 0) dX12_errors_36 rfl (by decide) ?_
    refine rj_istore (l' := [(4, .int 0), (3, .int (fX12_outByNow (mX12_lineup (rj_pi μ 395 0 0)))), (2, .int (if (fX12_bound (mX12_lineup (rj_pi μ 395 0 0))) < ((mX12_lineup (rj_pi μ 395 0 0)).1 395 5) then 1 else 0)), (1, .int (fX12_lineup (rj_pi μ 395 0 0))), (0, .ref (ω.2.2 395))]) dX12_errors_37 rfl (rj_bl rfl) rfl ?_
    refine rj_iconst (v := 0) dX12_errors_39 rfl (by decide) ?_
    refine rj_istore (l' := [(5, .int 0), (4, .int 0), (3, .int (fX12_outByNow (mX12_lineup (rj_pi μ 395 0 0)))), (2, .int (if (fX12_bound (mX12_lineup (rj_pi μ 395 0 0))) < ((mX12_lineup (rj_pi μ 395 0 0)).1 395 5) then 1 else 0)), (1, .int (fX12_lineup (rj_pi μ 395 0 0))), (0, .ref (ω.2.2 395))]) dX12_errors_40 rfl (rj_bl rfl) rfl ?_
    refine rj_sub (l' := [(0, .ref (ω.2.2 395)), (1, .int (fX12_lineup (rj_pi μ 395 0 0))), (2, .int (if (fX12_bound (mX12_lineup (rj_pi μ 395 0 0))) < ((mX12_lineup (rj_pi μ 395 0 0)).1 395 5) then 1 else 0)), (3, .int (fX12_outByNow (mX12_lineup (rj_pi μ 395 0 0)))), (4, .int 0), (5, .int (nI 0))]) [5, 4, 3, 2, 1, 0] rfl ?_
    refine lX12_errors_42b hω μ kN     h1 25 0 0 rfl ?_
    refine rj_iload_n 2 dX12_errors_71 rfl rfl ?_
    refine rj_aload_n 0 dX12_errors_72 rfl rfl ?_
    refine rj_cV (rest := [.int (if (fX12_bound (mX12_lineup (rj_pi μ 395 0 0))) < ((mX12_lineup (rj_pi μ 395 0 0)).1 395 5) then 1 else 0)]) (sX12_areEvenings (g := g) (ω := ω) hω (mX12_lineup (rj_pi μ 395 0 0))   (And.left (And.right (And.right hq4)))) gX12_errors_X12_areEvenings (rj_lt hω (k := 395) rfl) (rj_sh hω ly_395) rfl rfl hVX12_areEvenings ⟨Nat.le_of_ble_eq_true rfl, Nat.le_of_ble_eq_true rfl⟩ dX12_errors_73 rfl rfl rfl (Nat.le_of_ble_eq_true rfl) rfl (Nat.le_of_ble_eq_true rfl) rfl ?_
    refine rj_join (c := (fX12_areEvenings (mX12_lineup (rj_pi μ 395 0 0))) = 0) (a := 1) (b := 0) (J := 84) (st2 := [.int (if (fX12_bound (mX12_lineup (rj_pi μ 395 0 0))) < ((mX12_lineup (rj_pi μ 395 0 0)).1 395 5) then 1 else 0)]) (fun k1 k2 => ?_) ?_
    · refine rj_if_eq dX12_errors_76 rfl rfl (fun h16 => ?_) (fun h16 => ?_)
      · refine rj_iconst (v := 1) dX12_errors_83 rfl (by decide) ?_
        exact k1 h16
      · refine rj_iconst (v := 0) dX12_errors_79 rfl (by decide) ?_
        refine rj_goto dX12_errors_80 rfl ?_
        exact k2 h16
    refine rj_iadd dX12_errors_84 rfl ?_
    refine rj_istore_n (l' := [(2, .int ((if (fX12_bound (mX12_lineup (rj_pi μ 395 0 0))) < ((mX12_lineup (rj_pi μ 395 0 0)).1 395 5) then 1 else 0) + (if (fX12_areEvenings (mX12_lineup (rj_pi μ 395 0 0))) = 0 then 1 else 0))), (0, .ref (ω.2.2 395)), (1, .int (fX12_lineup (rj_pi μ 395 0 0))), (3, .int (fX12_outByNow (mX12_lineup (rj_pi μ 395 0 0)))), (4, .int (rj_fo (bX12_errors_42b μ kN) 25 0 0)), (5, .int (nI 25))]) dX12_errors_85 rfl (rj_bl rfl) rfl ?_
    refine rj_iload_n 0 dX12_errors_86 rfl rfl ?_
    refine rj_iload_n 3 dX12_errors_87 rfl rfl ?_
    refine rj_iconst (v := (-1)) dX12_errors_88 rfl (by decide) ?_
    refine rj_icmp_eq dX12_errors_89 rfl rfl (fun h17 => ?_) (fun h17 => ?_)
    · have hq5 := (And.left (And.right (And.right (And.right hq4)))) h17
      refine rj_iconst (v := 0) dX12_errors_100 rfl (by decide) ?_
      refine rj_goto dX12_errors_101 rfl ?_
      refine rj_iadd dX12_errors_105 rfl ?_
      refine rj_istore_n (l' := [(2, .int (((if (fX12_bound (mX12_lineup (rj_pi μ 395 0 0))) < ((mX12_lineup (rj_pi μ 395 0 0)).1 395 5) then 1 else 0) + (if (fX12_areEvenings (mX12_lineup (rj_pi μ 395 0 0))) = 0 then 1 else 0)) + 0)), (0, .ref (ω.2.2 395)), (1, .int (fX12_lineup (rj_pi μ 395 0 0))), (3, .int (fX12_outByNow (mX12_lineup (rj_pi μ 395 0 0)))), (4, .int (rj_fo (bX12_errors_42b μ kN) 25 0 0)), (5, .int (nI 25))]) dX12_errors_106 rfl (rj_bl rfl) rfl ?_
      refine rj_iload_n 0 dX12_errors_107 rfl rfl ?_
      refine rj_aload_n 1 dX12_errors_108 rfl rfl ?_
      refine rj_cVg (L := fun ad => [(2, .int (((if (fX12_bound (mX12_lineup (rj_pi μ 395 0 0))) < ((mX12_lineup (rj_pi μ 395 0 0)).1 395 5) then 1 else 0) + (if (fX12_areEvenings (mX12_lineup (rj_pi μ 395 0 0))) = 0 then 1 else 0)) + 0)), (0, .ref (ad 395)), (1, .int (fX12_lineup (rj_pi μ 395 0 0))), (3, .int (fX12_outByNow (mX12_lineup (rj_pi μ 395 0 0)))), (4, .int (rj_fo (bX12_errors_42b μ kN) 25 0 0)), (5, .int (nI 25))]) (ST := fun ad => [.int (((if (fX12_bound (mX12_lineup (rj_pi μ 395 0 0))) < ((mX12_lineup (rj_pi μ 395 0 0)).1 395 5) then 1 else 0) + (if (fX12_areEvenings (mX12_lineup (rj_pi μ 395 0 0))) = 0 then 1 else 0)) + 0)]) (av := []) (sX12_waitsInOne (g := g) (ω := ω) hω (mX12_areEvenings (mX12_lineup (rj_pi μ 395 0 0))) kN hkN ((And.left hq5)) ((And.left (And.right hq5)))) gX12_errors_X12_waitsInOne (rj_lt hω (k := 395) rfl) (rj_sh hω ly_395) rfl rfl hVX12_waitsInOne ⟨Nat.le_of_ble_eq_true rfl, Nat.le_of_ble_eq_true rfl⟩ dX12_errors_109 rfl rfl (Nat.le_of_ble_eq_true rfl) rfl (Nat.le_of_ble_eq_true rfl) (fun ad h => by show _ = _; simp only [h 395 (by decide)]) (fun ad h => rfl) (fun ω hω hE => ?_)
      refine rj_aload_n 1 dX12_errors_112 rfl rfl ?_
      refine rj_cV (rest := [.int (fX12_waitsInOne (rj_z (mX12_areEvenings (mX12_lineup (rj_pi μ 395 0 0))) kN) kN), .int (((if (fX12_bound (mX12_lineup (rj_pi μ 395 0 0))) < ((mX12_lineup (rj_pi μ 395 0 0)).1 395 5) then 1 else 0) + (if (fX12_areEvenings (mX12_lineup (rj_pi μ 395 0 0))) = 0 then 1 else 0)) + 0)]) (sX12_waitsInLines (g := g) (ω := ω) hω (mX12_waitsInOne (rj_z (mX12_areEvenings (mX12_lineup (rj_pi μ 395 0 0))) kN) kN)   ) gX12_errors_X12_waitsInLines (rj_lt hω (k := 395) rfl) (rj_sh hω ly_395) rfl rfl hVX12_waitsInLines ⟨Nat.le_of_ble_eq_true rfl, Nat.le_of_ble_eq_true rfl⟩ dX12_errors_113 rfl rfl rfl (Nat.le_of_ble_eq_true rfl) rfl (Nat.le_of_ble_eq_true rfl) rfl ?_
      refine rj_join (c := (fX12_waitsInLines (mX12_waitsInOne (rj_z (mX12_areEvenings (mX12_lineup (rj_pi μ 395 0 0))) kN) kN)) < (fX12_waitsInOne (rj_z (mX12_areEvenings (mX12_lineup (rj_pi μ 395 0 0))) kN) kN)) (a := 1) (b := 0) (J := 124) (st2 := [.int (((if (fX12_bound (mX12_lineup (rj_pi μ 395 0 0))) < ((mX12_lineup (rj_pi μ 395 0 0)).1 395 5) then 1 else 0) + (if (fX12_areEvenings (mX12_lineup (rj_pi μ 395 0 0))) = 0 then 1 else 0)) + 0)]) (fun k1 k2 => ?_) ?_
      · refine rj_icmp_gt dX12_errors_116 rfl rfl (fun h18 => ?_) (fun h18 => ?_)
        · refine rj_iconst (v := 1) dX12_errors_123 rfl (by decide) ?_
          exact k1 h18
        · refine rj_iconst (v := 0) dX12_errors_119 rfl (by decide) ?_
          refine rj_goto dX12_errors_120 rfl ?_
          exact k2 h18
      refine rj_iadd dX12_errors_124 rfl ?_
      refine rj_istore_n (l' := [(2, .int ((((if (fX12_bound (mX12_lineup (rj_pi μ 395 0 0))) < ((mX12_lineup (rj_pi μ 395 0 0)).1 395 5) then 1 else 0) + (if (fX12_areEvenings (mX12_lineup (rj_pi μ 395 0 0))) = 0 then 1 else 0)) + 0) + (if (fX12_waitsInLines (mX12_waitsInOne (rj_z (mX12_areEvenings (mX12_lineup (rj_pi μ 395 0 0))) kN) kN)) < (fX12_waitsInOne (rj_z (mX12_areEvenings (mX12_lineup (rj_pi μ 395 0 0))) kN) kN) then 1 else 0))), (0, .ref (ω.2.2 395)), (1, .int (fX12_lineup (rj_pi μ 395 0 0))), (3, .int (fX12_outByNow (mX12_lineup (rj_pi μ 395 0 0)))), (4, .int (rj_fo (bX12_errors_42b μ kN) 25 0 0)), (5, .int (nI 25))]) dX12_errors_125 rfl (rj_bl rfl) rfl ?_
      refine rj_iload_n 0 dX12_errors_126 rfl rfl ?_
      refine rj_aload_n 1 dX12_errors_127 rfl rfl ?_
      refine rj_cV (rest := [.int ((((if (fX12_bound (mX12_lineup (rj_pi μ 395 0 0))) < ((mX12_lineup (rj_pi μ 395 0 0)).1 395 5) then 1 else 0) + (if (fX12_areEvenings (mX12_lineup (rj_pi μ 395 0 0))) = 0 then 1 else 0)) + 0) + (if (fX12_waitsInLines (mX12_waitsInOne (rj_z (mX12_areEvenings (mX12_lineup (rj_pi μ 395 0 0))) kN) kN)) < (fX12_waitsInOne (rj_z (mX12_areEvenings (mX12_lineup (rj_pi μ 395 0 0))) kN) kN) then 1 else 0))]) (sX12_isProved (g := g) (ω := ω) hω (mX12_waitsInOne (rj_z (mX12_areEvenings (mX12_lineup (rj_pi μ 395 0 0))) kN) kN)   (And.left (And.right (And.right hq5)))) gX12_errors_X12_isProved (rj_lt hω (k := 395) rfl) (rj_sh hω ly_395) rfl rfl hVX12_isProved ⟨Nat.le_of_ble_eq_true rfl, Nat.le_of_ble_eq_true rfl⟩ dX12_errors_128 rfl rfl rfl (Nat.le_of_ble_eq_true rfl) rfl (Nat.le_of_ble_eq_true rfl) rfl ?_
      refine rj_join (c := (fX12_isProved (mX12_waitsInOne (rj_z (mX12_areEvenings (mX12_lineup (rj_pi μ 395 0 0))) kN) kN)) = 0) (a := 1) (b := 0) (J := 139) (st2 := [.int ((((if (fX12_bound (mX12_lineup (rj_pi μ 395 0 0))) < ((mX12_lineup (rj_pi μ 395 0 0)).1 395 5) then 1 else 0) + (if (fX12_areEvenings (mX12_lineup (rj_pi μ 395 0 0))) = 0 then 1 else 0)) + 0) + (if (fX12_waitsInLines (mX12_waitsInOne (rj_z (mX12_areEvenings (mX12_lineup (rj_pi μ 395 0 0))) kN) kN)) < (fX12_waitsInOne (rj_z (mX12_areEvenings (mX12_lineup (rj_pi μ 395 0 0))) kN) kN) then 1 else 0))]) (fun k1 k2 => ?_) ?_
      · refine rj_if_eq dX12_errors_131 rfl rfl (fun h19 => ?_) (fun h19 => ?_)
        · refine rj_iconst (v := 1) dX12_errors_138 rfl (by decide) ?_
          exact k1 h19
        · refine rj_iconst (v := 0) dX12_errors_134 rfl (by decide) ?_
          refine rj_goto dX12_errors_135 rfl ?_
          exact k2 h19
      refine rj_iadd dX12_errors_139 rfl ?_
      refine rj_istore_n (l' := [(2, .int (((((if (fX12_bound (mX12_lineup (rj_pi μ 395 0 0))) < ((mX12_lineup (rj_pi μ 395 0 0)).1 395 5) then 1 else 0) + (if (fX12_areEvenings (mX12_lineup (rj_pi μ 395 0 0))) = 0 then 1 else 0)) + 0) + (if (fX12_waitsInLines (mX12_waitsInOne (rj_z (mX12_areEvenings (mX12_lineup (rj_pi μ 395 0 0))) kN) kN)) < (fX12_waitsInOne (rj_z (mX12_areEvenings (mX12_lineup (rj_pi μ 395 0 0))) kN) kN) then 1 else 0)) + (if (fX12_isProved (mX12_waitsInOne (rj_z (mX12_areEvenings (mX12_lineup (rj_pi μ 395 0 0))) kN) kN)) = 0 then 1 else 0))), (0, .ref (ω.2.2 395)), (1, .int (fX12_lineup (rj_pi μ 395 0 0))), (3, .int (fX12_outByNow (mX12_lineup (rj_pi μ 395 0 0)))), (4, .int (rj_fo (bX12_errors_42b μ kN) 25 0 0)), (5, .int (nI 25))]) dX12_errors_140 rfl (rj_bl rfl) rfl ?_
      refine rj_iload_n 0 dX12_errors_141 rfl rfl ?_
      refine rj_iload 4 dX12_errors_142 rfl rfl ?_
      refine rj_join (c := (rj_fo (bX12_errors_42b μ kN) 25 0 0) = 0) (a := 0) (b := 1) (J := 152) (st2 := [.int (((((if (fX12_bound (mX12_lineup (rj_pi μ 395 0 0))) < ((mX12_lineup (rj_pi μ 395 0 0)).1 395 5) then 1 else 0) + (if (fX12_areEvenings (mX12_lineup (rj_pi μ 395 0 0))) = 0 then 1 else 0)) + 0) + (if (fX12_waitsInLines (mX12_waitsInOne (rj_z (mX12_areEvenings (mX12_lineup (rj_pi μ 395 0 0))) kN) kN)) < (fX12_waitsInOne (rj_z (mX12_areEvenings (mX12_lineup (rj_pi μ 395 0 0))) kN) kN) then 1 else 0)) + (if (fX12_isProved (mX12_waitsInOne (rj_z (mX12_areEvenings (mX12_lineup (rj_pi μ 395 0 0))) kN) kN)) = 0 then 1 else 0))]) (fun k1 k2 => ?_) ?_
      · refine rj_if_ne dX12_errors_144 rfl rfl (fun h20 => ?_) (fun h20 => ?_)
        · refine rj_iconst (v := 1) dX12_errors_151 rfl (by decide) ?_
          exact k2 h20
        · refine rj_iconst (v := 0) dX12_errors_147 rfl (by decide) ?_
          refine rj_goto dX12_errors_148 rfl ?_
          exact k1 h20
      refine rj_iadd dX12_errors_152 rfl ?_
      exact rj_iret dX12_errors_153 rfl (Nat.le_of_ble_eq_true rfl) (Nat.le_of_ble_eq_true rfl) ⟨(by unfold fX12_errors; rw [if_neg h1]; rw [if_pos h17]; try rfl), hω, hE, (by unfold mX12_errors; rw [if_neg h1]; rw [if_pos h17]; try rfl)⟩
    · have hq6 := (And.right (And.right (And.right (And.right hq4)))) h17
      refine rj_aload_n 1 dX12_errors_92 rfl rfl ?_
      refine rj_iload_n 3 dX12_errors_93 rfl rfl ?_
      refine rj_cV (rest := [.int ((if (fX12_bound (mX12_lineup (rj_pi μ 395 0 0))) < ((mX12_lineup (rj_pi μ 395 0 0)).1 395 5) then 1 else 0) + (if (fX12_areEvenings (mX12_lineup (rj_pi μ 395 0 0))) = 0 then 1 else 0))]) (sX12_tooMany (g := g) (ω := ω) hω (mX12_areEvenings (mX12_lineup (rj_pi μ 395 0 0))) (fX12_outByNow (mX12_lineup (rj_pi μ 395 0 0)))   ) gX12_errors_X12_tooMany (rj_lt hω (k := 395) rfl) (rj_sh hω ly_395) rfl rfl hVX12_tooMany ⟨Nat.le_of_ble_eq_true rfl, Nat.le_of_ble_eq_true rfl⟩ dX12_errors_94 rfl rfl rfl (Nat.le_of_ble_eq_true rfl) rfl (Nat.le_of_ble_eq_true rfl) rfl ?_
      refine rj_join (c := (fX12_tooMany (mX12_areEvenings (mX12_lineup (rj_pi μ 395 0 0))) (fX12_outByNow (mX12_lineup (rj_pi μ 395 0 0)))) = 0) (a := 0) (b := 1) (J := 105) (st2 := [.int ((if (fX12_bound (mX12_lineup (rj_pi μ 395 0 0))) < ((mX12_lineup (rj_pi μ 395 0 0)).1 395 5) then 1 else 0) + (if (fX12_areEvenings (mX12_lineup (rj_pi μ 395 0 0))) = 0 then 1 else 0))]) (fun k1 k2 => ?_) ?_
      · refine rj_if_ne dX12_errors_97 rfl rfl (fun h21 => ?_) (fun h21 => ?_)
        · refine rj_iconst (v := 1) dX12_errors_104 rfl (by decide) ?_
          exact k2 h21
        · refine rj_iconst (v := 0) dX12_errors_100 rfl (by decide) ?_
          refine rj_goto dX12_errors_101 rfl ?_
          exact k1 h21
      refine rj_iadd dX12_errors_105 rfl ?_
      refine rj_istore_n (l' := [(2, .int (((if (fX12_bound (mX12_lineup (rj_pi μ 395 0 0))) < ((mX12_lineup (rj_pi μ 395 0 0)).1 395 5) then 1 else 0) + (if (fX12_areEvenings (mX12_lineup (rj_pi μ 395 0 0))) = 0 then 1 else 0)) + (if (fX12_tooMany (mX12_areEvenings (mX12_lineup (rj_pi μ 395 0 0))) (fX12_outByNow (mX12_lineup (rj_pi μ 395 0 0)))) = 0 then 0 else 1))), (0, .ref (ω.2.2 395)), (1, .int (fX12_lineup (rj_pi μ 395 0 0))), (3, .int (fX12_outByNow (mX12_lineup (rj_pi μ 395 0 0)))), (4, .int (rj_fo (bX12_errors_42b μ kN) 25 0 0)), (5, .int (nI 25))]) dX12_errors_106 rfl (rj_bl rfl) rfl ?_
      refine rj_iload_n 0 dX12_errors_107 rfl rfl ?_
      refine rj_aload_n 1 dX12_errors_108 rfl rfl ?_
      refine rj_cVg (L := fun ad => [(2, .int (((if (fX12_bound (mX12_lineup (rj_pi μ 395 0 0))) < ((mX12_lineup (rj_pi μ 395 0 0)).1 395 5) then 1 else 0) + (if (fX12_areEvenings (mX12_lineup (rj_pi μ 395 0 0))) = 0 then 1 else 0)) + (if (fX12_tooMany (mX12_areEvenings (mX12_lineup (rj_pi μ 395 0 0))) (fX12_outByNow (mX12_lineup (rj_pi μ 395 0 0)))) = 0 then 0 else 1))), (0, .ref (ad 395)), (1, .int (fX12_lineup (rj_pi μ 395 0 0))), (3, .int (fX12_outByNow (mX12_lineup (rj_pi μ 395 0 0)))), (4, .int (rj_fo (bX12_errors_42b μ kN) 25 0 0)), (5, .int (nI 25))]) (ST := fun ad => [.int (((if (fX12_bound (mX12_lineup (rj_pi μ 395 0 0))) < ((mX12_lineup (rj_pi μ 395 0 0)).1 395 5) then 1 else 0) + (if (fX12_areEvenings (mX12_lineup (rj_pi μ 395 0 0))) = 0 then 1 else 0)) + (if (fX12_tooMany (mX12_areEvenings (mX12_lineup (rj_pi μ 395 0 0))) (fX12_outByNow (mX12_lineup (rj_pi μ 395 0 0)))) = 0 then 0 else 1))]) (av := []) (sX12_waitsInOne (g := g) (ω := ω) hω (mX12_areEvenings (mX12_lineup (rj_pi μ 395 0 0))) kN hkN ((And.left hq6)) ((And.left (And.right hq6)))) gX12_errors_X12_waitsInOne (rj_lt hω (k := 395) rfl) (rj_sh hω ly_395) rfl rfl hVX12_waitsInOne ⟨Nat.le_of_ble_eq_true rfl, Nat.le_of_ble_eq_true rfl⟩ dX12_errors_109 rfl rfl (Nat.le_of_ble_eq_true rfl) rfl (Nat.le_of_ble_eq_true rfl) (fun ad h => by show _ = _; simp only [h 395 (by decide)]) (fun ad h => rfl) (fun ω hω hE => ?_)
      refine rj_aload_n 1 dX12_errors_112 rfl rfl ?_
      refine rj_cV (rest := [.int (fX12_waitsInOne (rj_z (mX12_areEvenings (mX12_lineup (rj_pi μ 395 0 0))) kN) kN), .int (((if (fX12_bound (mX12_lineup (rj_pi μ 395 0 0))) < ((mX12_lineup (rj_pi μ 395 0 0)).1 395 5) then 1 else 0) + (if (fX12_areEvenings (mX12_lineup (rj_pi μ 395 0 0))) = 0 then 1 else 0)) + (if (fX12_tooMany (mX12_areEvenings (mX12_lineup (rj_pi μ 395 0 0))) (fX12_outByNow (mX12_lineup (rj_pi μ 395 0 0)))) = 0 then 0 else 1))]) (sX12_waitsInLines (g := g) (ω := ω) hω (mX12_waitsInOne (rj_z (mX12_areEvenings (mX12_lineup (rj_pi μ 395 0 0))) kN) kN)   ) gX12_errors_X12_waitsInLines (rj_lt hω (k := 395) rfl) (rj_sh hω ly_395) rfl rfl hVX12_waitsInLines ⟨Nat.le_of_ble_eq_true rfl, Nat.le_of_ble_eq_true rfl⟩ dX12_errors_113 rfl rfl rfl (Nat.le_of_ble_eq_true rfl) rfl (Nat.le_of_ble_eq_true rfl) rfl ?_
      refine rj_join (c := (fX12_waitsInLines (mX12_waitsInOne (rj_z (mX12_areEvenings (mX12_lineup (rj_pi μ 395 0 0))) kN) kN)) < (fX12_waitsInOne (rj_z (mX12_areEvenings (mX12_lineup (rj_pi μ 395 0 0))) kN) kN)) (a := 1) (b := 0) (J := 124) (st2 := [.int (((if (fX12_bound (mX12_lineup (rj_pi μ 395 0 0))) < ((mX12_lineup (rj_pi μ 395 0 0)).1 395 5) then 1 else 0) + (if (fX12_areEvenings (mX12_lineup (rj_pi μ 395 0 0))) = 0 then 1 else 0)) + (if (fX12_tooMany (mX12_areEvenings (mX12_lineup (rj_pi μ 395 0 0))) (fX12_outByNow (mX12_lineup (rj_pi μ 395 0 0)))) = 0 then 0 else 1))]) (fun k1 k2 => ?_) ?_
      · refine rj_icmp_gt dX12_errors_116 rfl rfl (fun h22 => ?_) (fun h22 => ?_)
        · refine rj_iconst (v := 1) dX12_errors_123 rfl (by decide) ?_
          exact k1 h22
        · refine rj_iconst (v := 0) dX12_errors_119 rfl (by decide) ?_
          refine rj_goto dX12_errors_120 rfl ?_
          exact k2 h22
      refine rj_iadd dX12_errors_124 rfl ?_
      refine rj_istore_n (l' := [(2, .int ((((if (fX12_bound (mX12_lineup (rj_pi μ 395 0 0))) < ((mX12_lineup (rj_pi μ 395 0 0)).1 395 5) then 1 else 0) + (if (fX12_areEvenings (mX12_lineup (rj_pi μ 395 0 0))) = 0 then 1 else 0)) + (if (fX12_tooMany (mX12_areEvenings (mX12_lineup (rj_pi μ 395 0 0))) (fX12_outByNow (mX12_lineup (rj_pi μ 395 0 0)))) = 0 then 0 else 1)) + (if (fX12_waitsInLines (mX12_waitsInOne (rj_z (mX12_areEvenings (mX12_lineup (rj_pi μ 395 0 0))) kN) kN)) < (fX12_waitsInOne (rj_z (mX12_areEvenings (mX12_lineup (rj_pi μ 395 0 0))) kN) kN) then 1 else 0))), (0, .ref (ω.2.2 395)), (1, .int (fX12_lineup (rj_pi μ 395 0 0))), (3, .int (fX12_outByNow (mX12_lineup (rj_pi μ 395 0 0)))), (4, .int (rj_fo (bX12_errors_42b μ kN) 25 0 0)), (5, .int (nI 25))]) dX12_errors_125 rfl (rj_bl rfl) rfl ?_
      refine rj_iload_n 0 dX12_errors_126 rfl rfl ?_
      refine rj_aload_n 1 dX12_errors_127 rfl rfl ?_
      refine rj_cV (rest := [.int ((((if (fX12_bound (mX12_lineup (rj_pi μ 395 0 0))) < ((mX12_lineup (rj_pi μ 395 0 0)).1 395 5) then 1 else 0) + (if (fX12_areEvenings (mX12_lineup (rj_pi μ 395 0 0))) = 0 then 1 else 0)) + (if (fX12_tooMany (mX12_areEvenings (mX12_lineup (rj_pi μ 395 0 0))) (fX12_outByNow (mX12_lineup (rj_pi μ 395 0 0)))) = 0 then 0 else 1)) + (if (fX12_waitsInLines (mX12_waitsInOne (rj_z (mX12_areEvenings (mX12_lineup (rj_pi μ 395 0 0))) kN) kN)) < (fX12_waitsInOne (rj_z (mX12_areEvenings (mX12_lineup (rj_pi μ 395 0 0))) kN) kN) then 1 else 0))]) (sX12_isProved (g := g) (ω := ω) hω (mX12_waitsInOne (rj_z (mX12_areEvenings (mX12_lineup (rj_pi μ 395 0 0))) kN) kN)   (And.left (And.right (And.right hq6)))) gX12_errors_X12_isProved (rj_lt hω (k := 395) rfl) (rj_sh hω ly_395) rfl rfl hVX12_isProved ⟨Nat.le_of_ble_eq_true rfl, Nat.le_of_ble_eq_true rfl⟩ dX12_errors_128 rfl rfl rfl (Nat.le_of_ble_eq_true rfl) rfl (Nat.le_of_ble_eq_true rfl) rfl ?_
      refine rj_join (c := (fX12_isProved (mX12_waitsInOne (rj_z (mX12_areEvenings (mX12_lineup (rj_pi μ 395 0 0))) kN) kN)) = 0) (a := 1) (b := 0) (J := 139) (st2 := [.int ((((if (fX12_bound (mX12_lineup (rj_pi μ 395 0 0))) < ((mX12_lineup (rj_pi μ 395 0 0)).1 395 5) then 1 else 0) + (if (fX12_areEvenings (mX12_lineup (rj_pi μ 395 0 0))) = 0 then 1 else 0)) + (if (fX12_tooMany (mX12_areEvenings (mX12_lineup (rj_pi μ 395 0 0))) (fX12_outByNow (mX12_lineup (rj_pi μ 395 0 0)))) = 0 then 0 else 1)) + (if (fX12_waitsInLines (mX12_waitsInOne (rj_z (mX12_areEvenings (mX12_lineup (rj_pi μ 395 0 0))) kN) kN)) < (fX12_waitsInOne (rj_z (mX12_areEvenings (mX12_lineup (rj_pi μ 395 0 0))) kN) kN) then 1 else 0))]) (fun k1 k2 => ?_) ?_
      · refine rj_if_eq dX12_errors_131 rfl rfl (fun h23 => ?_) (fun h23 => ?_)
        · refine rj_iconst (v := 1) dX12_errors_138 rfl (by decide) ?_
          exact k1 h23
        · refine rj_iconst (v := 0) dX12_errors_134 rfl (by decide) ?_
          refine rj_goto dX12_errors_135 rfl ?_
          exact k2 h23
      refine rj_iadd dX12_errors_139 rfl ?_
      refine rj_istore_n (l' := [(2, .int (((((if (fX12_bound (mX12_lineup (rj_pi μ 395 0 0))) < ((mX12_lineup (rj_pi μ 395 0 0)).1 395 5) then 1 else 0) + (if (fX12_areEvenings (mX12_lineup (rj_pi μ 395 0 0))) = 0 then 1 else 0)) + (if (fX12_tooMany (mX12_areEvenings (mX12_lineup (rj_pi μ 395 0 0))) (fX12_outByNow (mX12_lineup (rj_pi μ 395 0 0)))) = 0 then 0 else 1)) + (if (fX12_waitsInLines (mX12_waitsInOne (rj_z (mX12_areEvenings (mX12_lineup (rj_pi μ 395 0 0))) kN) kN)) < (fX12_waitsInOne (rj_z (mX12_areEvenings (mX12_lineup (rj_pi μ 395 0 0))) kN) kN) then 1 else 0)) + (if (fX12_isProved (mX12_waitsInOne (rj_z (mX12_areEvenings (mX12_lineup (rj_pi μ 395 0 0))) kN) kN)) = 0 then 1 else 0))), (0, .ref (ω.2.2 395)), (1, .int (fX12_lineup (rj_pi μ 395 0 0))), (3, .int (fX12_outByNow (mX12_lineup (rj_pi μ 395 0 0)))), (4, .int (rj_fo (bX12_errors_42b μ kN) 25 0 0)), (5, .int (nI 25))]) dX12_errors_140 rfl (rj_bl rfl) rfl ?_
      refine rj_iload_n 0 dX12_errors_141 rfl rfl ?_
      refine rj_iload 4 dX12_errors_142 rfl rfl ?_
      refine rj_join (c := (rj_fo (bX12_errors_42b μ kN) 25 0 0) = 0) (a := 0) (b := 1) (J := 152) (st2 := [.int (((((if (fX12_bound (mX12_lineup (rj_pi μ 395 0 0))) < ((mX12_lineup (rj_pi μ 395 0 0)).1 395 5) then 1 else 0) + (if (fX12_areEvenings (mX12_lineup (rj_pi μ 395 0 0))) = 0 then 1 else 0)) + (if (fX12_tooMany (mX12_areEvenings (mX12_lineup (rj_pi μ 395 0 0))) (fX12_outByNow (mX12_lineup (rj_pi μ 395 0 0)))) = 0 then 0 else 1)) + (if (fX12_waitsInLines (mX12_waitsInOne (rj_z (mX12_areEvenings (mX12_lineup (rj_pi μ 395 0 0))) kN) kN)) < (fX12_waitsInOne (rj_z (mX12_areEvenings (mX12_lineup (rj_pi μ 395 0 0))) kN) kN) then 1 else 0)) + (if (fX12_isProved (mX12_waitsInOne (rj_z (mX12_areEvenings (mX12_lineup (rj_pi μ 395 0 0))) kN) kN)) = 0 then 1 else 0))]) (fun k1 k2 => ?_) ?_
      · refine rj_if_ne dX12_errors_144 rfl rfl (fun h24 => ?_) (fun h24 => ?_)
        · refine rj_iconst (v := 1) dX12_errors_151 rfl (by decide) ?_
          exact k2 h24
        · refine rj_iconst (v := 0) dX12_errors_147 rfl (by decide) ?_
          refine rj_goto dX12_errors_148 rfl ?_
          exact k1 h24
      refine rj_iadd dX12_errors_152 rfl ?_
      exact rj_iret dX12_errors_153 rfl (Nat.le_of_ble_eq_true rfl) (Nat.le_of_ble_eq_true rfl) ⟨(by unfold fX12_errors; rw [if_neg h1]; rw [if_neg h17]; try rfl), hω, hE, (by unfold mX12_errors; rw [if_neg h1]; rw [if_neg h17]; try rfl)⟩
