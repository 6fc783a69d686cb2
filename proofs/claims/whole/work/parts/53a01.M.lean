theorem hSX12_findsShifts : yX12_findsShifts.cls ≠ "java/lang/invoke/MethodHandle" ∧ yX12_findsShifts.cls ≠ "java/lang/invoke/VarHandle" ∧ (parseMethodDescriptor yX12_findsShifts.desc).map (fun d => d.parameters.length) = some 0 := by decide +kernel
theorem hVX12_findsShifts : yX12_findsShifts.cls = RX12 ∧ yX12_findsShifts.cls ≠ "java/lang/invoke/MethodHandle" ∧ yX12_findsShifts.cls ≠ "java/lang/invoke/VarHandle" ∧ (parseMethodDescriptor yX12_findsShifts.desc).map (fun d => d.parameters.length) = some 0 := by decide +kernel
theorem vX12_findsShifts_12 : ∀ w ∈ u_ws RX12 TX12 16, w ∈ wsX12_findsShifts := by decide +kernel
theorem kX12_findsShifts_24 : Cond.fieldLink RX12 24 (TX12 9).1 (TX12 9).2.1 (TX12 9).2.2.1 ∈ wsX12_findsShifts := by decide +kernel
theorem kX12_findsShifts_9 : Cond.fieldLink RX12 9 (TX12 1).1 (TX12 1).2.1 (TX12 1).2.2.1 ∈ wsX12_findsShifts := by decide +kernel
theorem jX12_findsShifts_92_0 : Cond.methodLink RX12 92 Lib.Math.min.name ∈ wsX12_findsShifts := by decide +kernel
theorem jX12_findsShifts_92_1 : Cond.static Lib.Math.min.name ∈ wsX12_findsShifts := by decide +kernel
theorem jX12_findsShifts_92_2 : Cond.initialized "java/lang/Math" ∈ wsX12_findsShifts := by decide +kernel
theorem jX12_findsShifts_92_3 : Cond.code Lib.Math.min.name Lib.Math.min.code 2 (some .int) ∈ wsX12_findsShifts := by decide +kernel
noncomputable def bX12_findsShifts_2 (μ : rj_M) (j2 : Nat) (s2 : rj_M) : rj_M := (rj_pi s2 408 (nI j2).toNatClampNeg 0)
set_option maxHeartbeats 4000000 in
set_option maxRecDepth 100000 in
theorem lX12_findsShifts_2 {g : rj_G} {ω : rj_W} (hω : rj_ok ω) (μ : rj_M)      {F : rj_F} : ∀ (r j : Nat) (s : rj_M), j + r = 24 → (rj_R g RX12 cX12_findsShifts 4 none wsX12_findsShifts [] (rj_rm 1 0) F 0 ω (rj_fo (bX12_findsShifts_2 μ) r j s) [(0, .ref (ω.2.2 395)), (1, .int (nI 24))] 21 []) → rj_R g RX12 cX12_findsShifts 4 none wsX12_findsShifts [] (rj_rm 1 0) F 0 ω s [(0, .ref (ω.2.2 395)), (1, .int (nI j))] 2 [] := by
  intro r
  induction r with
  | zero =>
    intro j s hj K
    have e0 : j = 24 := by omega
    have hge : 24 ≤ nI j := by
      rw [e0]
      exact Int32.le_refl _
    refine rj_iload_n 1 dX12_findsShifts_2 rfl rfl ?_
    refine rj_bipush (v := 24) dX12_findsShifts_3 rfl (by decide) ?_
    refine rj_icmp_ge dX12_findsShifts_5 rfl rfl (fun h2 => ?_) (fun h2 => ?_)
    · have e1 : nI j = nI 24 := by rw [e0]
      rw [e1]
      exact K
    · exact absurd hge h2
  | succ r ih =>
    intro j2 s2 hj K
    have hl2 : j2 < 24 := by omega
    have hg2 : ¬ 24 ≤ nI j2 := nI_ge hl2 (rj_bl rfl)
    refine rj_iload_n 1 dX12_findsShifts_2 rfl rfl ?_
    refine rj_bipush (v := 24) dX12_findsShifts_3 rfl (by decide) ?_
    refine rj_icmp_ge dX12_findsShifts_5 rfl rfl (fun h1 => ?_) (fun h1 => ?_)
    · exact absurd h1 hg2
    · refine rj_aload_n 0 dX12_findsShifts_8 rfl rfl ?_
      refine rj_getR (C0 := RX12) (T := TX12) (N := 16) (j := 9) (r := 408) dX12_findsShifts_9 rfl vX12_findsShifts_12 rfl (rj_lt hω (k := 395) rfl) (rj_sh hω ly_395) (by decide) kX12_findsShifts_24 rfl ?_
      refine rj_iload_n 1 dX12_findsShifts_12 rfl rfl ?_
      refine rj_iconst (v := 0) dX12_findsShifts_13 rfl (by decide) ?_
      refine rj_iast dX12_findsShifts_14 rfl (rj_lt hω (k := 408) rfl) (rj_sh hω ly_408) (vp_in_nI hl2 (rj_bl rfl)) ?_
      refine rj_iinc (v := nI (j2 + 1)) (l' := [(1, .int (nI (j2 + 1))), (0, .ref (ω.2.2 395))]) 1 dX12_findsShifts_15 rfl rfl (nI_succ j2).symm (rj_bl rfl) rfl ?_
      refine rj_goto dX12_findsShifts_18 rfl ?_
      have e : bX12_findsShifts_2 μ j2 s2 = (rj_pi s2 408 (nI j2).toNatClampNeg 0) := by unfold bX12_findsShifts_2; rfl
      exact rj_sub (l' := [(0, .ref (ω.2.2 395)), (1, .int (nI (j2 + 1)))]) [1, 0] rfl (ih (j2 + 1) (rj_pi s2 408 (nI j2).toNatClampNeg 0) (by omega) (by rw [rj_fo_s (r := r), e] at K; exact K))
noncomputable def bX12_findsShifts_33 (μ : rj_M) (j23 : Nat) (s23 : rj_M) (s33 : Int32 × Int32) : (Int32 × Int32) ⊕ (Int32 × Int32) := (if nI j23 < s33.2 then .inr (s33.1, s33.2) else (if (s33.2 + (s23.1 396 (411 : Int32).toNatClampNeg)) ≤ nI j23 then .inl ((s33.1 + 0), s33.2 + 1) else .inl ((s33.1 + (s23.1 408 s33.2.toNatClampNeg)), s33.2 + 1)))
noncomputable def qX12_findsShifts_33 (μ : rj_M) (j23 : Nat) (s23 : rj_M) (s33 : Int32 × Int32) : Prop := (((nI j23 < s33.2) → True) ∧ ((¬ (nI j23 < s33.2)) → ((((s33.2 + (s23.1 396 (411 : Int32).toNatClampNeg)) ≤ nI j23) → True) ∧ ((¬ ((s33.2 + (s23.1 396 (411 : Int32).toNatClampNeg)) ≤ nI j23)) → (vp_in s33.2 24 ∧ True)))))
set_option maxHeartbeats 4000000 in
set_option maxRecDepth 100000 in
theorem lX12_findsShifts_33 {g : rj_G} {ω : rj_W} (hω : rj_ok ω) (μ : rj_M) (j23 : Nat) (s23 : rj_M)  (hl23 : j23 < 24)  (h3 : ¬ (24 ≤ nI j23)) {F : rj_F} : ∀ (r : Nat) (s : Int32 × Int32), (True → ra_we (qX12_findsShifts_33 μ j23 s23) (bX12_findsShifts_33 μ j23 s23) r s) → (rj_R g RX12 cX12_findsShifts 4 none wsX12_findsShifts [] (rj_rm 1 0) F 0 ω s23 [(0, .ref (ω.2.2 395)), (1, .int (nI j23)), (2, .int ((rj_we (bX12_findsShifts_33 μ j23 s23) r s).1)), (3, .int ((rj_we (bX12_findsShifts_33 μ j23 s23) r s).2))] 71 []) → rj_R g RX12 cX12_findsShifts 4 none wsX12_findsShifts [] (rj_rm 1 0) F 0 ω s23 [(0, .ref (ω.2.2 395)), (1, .int (nI j23)), (2, .int s.1), (3, .int s.2)] 33 [] := by
  intro r
  induction r with
  | zero =>
    intro s hq0 K
    exact (ra_we_0 (hq0 True.intro)).elim
  | succ r ih =>
    intro s33 hq0 K
    have hqa := ra_we_q (hq0 True.intro)
    unfold qX12_findsShifts_33 at hqa
    refine rj_iload_n 3 dX12_findsShifts_33 rfl rfl ?_
    refine rj_iload_n 1 dX12_findsShifts_34 rfl rfl ?_
    refine rj_icmp_gt dX12_findsShifts_35 rfl rfl (fun h4 => ?_) (fun h4 => ?_)
    · skip
      have e : bX12_findsShifts_33 μ j23 s23 s33 = .inr (s33.1, s33.2) := by unfold bX12_findsShifts_33; rw [if_pos h4]; try rfl
      exact rj_sub (l' := [(0, .ref (ω.2.2 395)), (1, .int (nI j23)), (2, .int s33.1), (3, .int s33.2)]) [0, 1, 2, 3] rfl (by rw [rj_we_r e] at K; exact K)
    · have hq2 := (And.right hqa) h4
      refine rj_iload_n 2 dX12_findsShifts_38 rfl rfl ?_
      refine rj_iload_n 3 dX12_findsShifts_39 rfl rfl ?_
      refine rj_aload_n 0 dX12_findsShifts_40 rfl rfl ?_
      refine rj_getR (C0 := RX12) (T := TX12) (N := 16) (j := 1) (r := 396) dX12_findsShifts_41 rfl vX12_findsShifts_12 rfl (rj_lt hω (k := 395) rfl) (rj_sh hω ly_395) (by decide) kX12_findsShifts_9 rfl ?_
      refine rj_sipush (v := 411) dX12_findsShifts_44 rfl (by decide) ?_
      refine rj_iald dX12_findsShifts_47 rfl (rj_lt hω (k := 396) rfl) (rj_sh hω ly_396) (vp_in_nI (n := 411) (rj_bl rfl) (rj_bl rfl)) ?_
      refine rj_iadd dX12_findsShifts_48 rfl ?_
      refine rj_iload_n 1 dX12_findsShifts_49 rfl rfl ?_
      refine rj_icmp_le dX12_findsShifts_50 rfl rfl (fun h5 => ?_) (fun h5 => ?_)
      · skip
        refine rj_iconst (v := 0) dX12_findsShifts_62 rfl (by decide) ?_
        refine rj_iadd dX12_findsShifts_63 rfl ?_
        refine rj_istore_n (l' := [(2, .int (s33.1 + 0)), (0, .ref (ω.2.2 395)), (1, .int (nI j23)), (3, .int s33.2)]) dX12_findsShifts_64 rfl (rj_bl rfl) rfl ?_
        refine rj_iinc (v := s33.2 + 1) (l' := [(3, .int (s33.2 + 1)), (2, .int (s33.1 + 0)), (0, .ref (ω.2.2 395)), (1, .int (nI j23))]) 3 dX12_findsShifts_65 rfl rfl rfl (rj_bl rfl) rfl ?_
        refine rj_goto dX12_findsShifts_68 rfl ?_
        have e : bX12_findsShifts_33 μ j23 s23 s33 = .inl ((s33.1 + 0), s33.2 + 1) := by unfold bX12_findsShifts_33; rw [if_neg h4]; rw [if_pos h5]; try rfl
        exact rj_sub (l' := [(0, .ref (ω.2.2 395)), (1, .int (nI j23)), (2, .int (s33.1 + 0)), (3, .int (s33.2 + 1))]) [2, 3, 1, 0] rfl (ih ((s33.1 + 0), s33.2 + 1) (fun _ => ra_we_n (hq0 True.intro) e) (by rw [rj_we_l e] at K; exact K))
      · have hq4 := (And.right hq2) h5
        refine rj_aload_n 0 dX12_findsShifts_53 rfl rfl ?_
        refine rj_getR (C0 := RX12) (T := TX12) (N := 16) (j := 9) (r := 408) dX12_findsShifts_54 rfl vX12_findsShifts_12 rfl (rj_lt hω (k := 395) rfl) (rj_sh hω ly_395) (by decide) kX12_findsShifts_24 rfl ?_
        refine rj_iload_n 3 dX12_findsShifts_57 rfl rfl ?_
        refine rj_iald dX12_findsShifts_58 rfl (rj_lt hω (k := 408) rfl) (rj_sh hω ly_408) (And.left hq4) ?_
        refine rj_goto dX12_findsShifts_59 rfl ?_
        refine rj_iadd dX12_findsShifts_63 rfl ?_
        refine rj_istore_n (l' := [(2, .int (s33.1 + (s23.1 408 s33.2.toNatClampNeg))), (0, .ref (ω.2.2 395)), (1, .int (nI j23)), (3, .int s33.2)]) dX12_findsShifts_64 rfl (rj_bl rfl) rfl ?_
        refine rj_iinc (v := s33.2 + 1) (l' := [(3, .int (s33.2 + 1)), (2, .int (s33.1 + (s23.1 408 s33.2.toNatClampNeg))), (0, .ref (ω.2.2 395)), (1, .int (nI j23))]) 3 dX12_findsShifts_65 rfl rfl rfl (rj_bl rfl) rfl ?_
        refine rj_goto dX12_findsShifts_68 rfl ?_
        have e : bX12_findsShifts_33 μ j23 s23 s33 = .inl ((s33.1 + (s23.1 408 s33.2.toNatClampNeg)), s33.2 + 1) := by unfold bX12_findsShifts_33; rw [if_neg h4]; rw [if_neg h5]; try rfl
        exact rj_sub (l' := [(0, .ref (ω.2.2 395)), (1, .int (nI j23)), (2, .int (s33.1 + (s23.1 408 s33.2.toNatClampNeg))), (3, .int (s33.2 + 1))]) [2, 3, 1, 0] rfl (ih ((s33.1 + (s23.1 408 s33.2.toNatClampNeg)), s33.2 + 1) (fun _ => ra_we_n (hq0 True.intro) e) (by rw [rj_we_l e] at K; exact K))
set_option maxHeartbeats 4000000 in
theorem lX12_findsShifts_33u {g : rj_G} {ω : rj_W} (hω : rj_ok ω) (μ : rj_M) (j23 : Nat) (s23 : rj_M)  (hl23 : j23 < 24)  (h3 : ¬ (24 ≤ nI j23)) {F : rj_F} : ∀ (r : Nat) (c0 : Int32) (c1 : Int32), (True → ra_we (qX12_findsShifts_33 μ j23 s23) (bX12_findsShifts_33 μ j23 s23) r (c0, c1)) → (rj_R g RX12 cX12_findsShifts 4 none wsX12_findsShifts [] (rj_rm 1 0) F 0 ω s23 [(0, .ref (ω.2.2 395)), (1, .int (nI j23)), (2, .int ((rj_we (bX12_findsShifts_33 μ j23 s23) r (c0, c1)).1)), (3, .int ((rj_we (bX12_findsShifts_33 μ j23 s23) r (c0, c1)).2))] 71 []) → rj_R g RX12 cX12_findsShifts 4 none wsX12_findsShifts [] (rj_rm 1 0) F 0 ω s23 [(0, .ref (ω.2.2 395)), (1, .int (nI j23)), (2, .int c0), (3, .int c1)] 33 [] := fun r c0 c1 => lX12_findsShifts_33 hω μ j23 s23  hl23  h3 r (c0, c1)
noncomputable def bX12_findsShifts_23 (μ : rj_M) (j23 : Nat) (s23 : rj_M) : rj_M := (if (s23.1 396 (387 + (nI j23)).toNatClampNeg) ≤ (rj_we (bX12_findsShifts_33 μ j23 s23) 25 (0, 0)).1 then s23 else (rj_pi s23 408 (if (24 - (s23.1 396 (411 : Int32).toNatClampNeg)) < nI j23 then (24 - (s23.1 396 (411 : Int32).toNatClampNeg)) else nI j23).toNatClampNeg ((s23.1 408 (if (24 - (s23.1 396 (411 : Int32).toNatClampNeg)) < nI j23 then (24 - (s23.1 396 (411 : Int32).toNatClampNeg)) else nI j23).toNatClampNeg) + ((s23.1 396 (387 + (nI j23)).toNatClampNeg) - ((rj_we (bX12_findsShifts_33 μ j23 s23) 25 (0, 0)).1)))))
noncomputable def qX12_findsShifts_23 (μ : rj_M) (j23 : Nat) (s23 : rj_M) : Prop := ((True → ra_we (qX12_findsShifts_33 μ j23 s23) (bX12_findsShifts_33 μ j23 s23) 25 (0, 0)) ∧ ((((s23.1 396 (387 + (nI j23)).toNatClampNeg) ≤ (rj_we (bX12_findsShifts_33 μ j23 s23) 25 (0, 0)).1) → True) ∧ ((¬ ((s23.1 396 (387 + (nI j23)).toNatClampNeg) ≤ (rj_we (bX12_findsShifts_33 μ j23 s23) 25 (0, 0)).1)) → (vp_in (if (24 - (s23.1 396 (411 : Int32).toNatClampNeg)) < nI j23 then (24 - (s23.1 396 (411 : Int32).toNatClampNeg)) else nI j23) 24 ∧ vp_in (if (24 - (s23.1 396 (411 : Int32).toNatClampNeg)) < nI j23 then (24 - (s23.1 396 (411 : Int32).toNatClampNeg)) else nI j23) 24 ∧ True))))
set_option maxHeartbeats 4000000 in
set_option maxRecDepth 100000 in
theorem lX12_findsShifts_23 {g : rj_G} {ω : rj_W} (hω : rj_ok ω) (μ : rj_M)      {F : rj_F} : ∀ (r j : Nat) (s : rj_M), j + r = 24 → (True → ra_fo (qX12_findsShifts_23 μ) (bX12_findsShifts_23 μ) r j s) → (rj_R g RX12 cX12_findsShifts 4 none wsX12_findsShifts [] (rj_rm 1 0) F 0 ω (rj_fo (bX12_findsShifts_23 μ) r j s) [(0, .ref (ω.2.2 395)), (1, .int (nI 24))] 126 []) → rj_R g RX12 cX12_findsShifts 4 none wsX12_findsShifts [] (rj_rm 1 0) F 0 ω s [(0, .ref (ω.2.2 395)), (1, .int (nI j))] 23 [] := by
  intro r
  induction r with
  | zero =>
    intro j s hj hq0 K
    have e0 : j = 24 := by omega
    have hge : 24 ≤ nI j := by
      rw [e0]
      exact Int32.le_refl _
    refine rj_iload_n 1 dX12_findsShifts_23 rfl rfl ?_
    refine rj_bipush (v := 24) dX12_findsShifts_24 rfl (by decide) ?_
    refine rj_icmp_ge dX12_findsShifts_26 rfl rfl (fun h7 => ?_) (fun h7 => ?_)
    · have e1 : nI j = nI 24 := by rw [e0]
      rw [e1]
      exact K
    · exact absurd hge h7
  | succ r ih =>
    intro j23 s23 hj hq0 K
    have hl23 : j23 < 24 := by omega
    have hg23 : ¬ 24 ≤ nI j23 := nI_ge hl23 (rj_bl rfl)
    have hqa := ra_fo_q (hq0 True.intro)
    unfold qX12_findsShifts_23 at hqa
    refine rj_iload_n 1 dX12_findsShifts_23 rfl rfl ?_
    refine rj_bipush (v := 24) dX12_findsShifts_24 rfl (by decide) ?_
    refine rj_icmp_ge dX12_findsShifts_26 rfl rfl (fun h3 => ?_) (fun h3 => ?_)
    · exact absurd h3 hg23
    · refine rj_iconst (v := 0) dX12_findsShifts_29 rfl (by decide) ?_
      refine rj_istore_n (l' := [(2, .int 0), (0, .ref (ω.2.2 395)), (1, .int (nI j23))]) dX12_findsShifts_30 rfl (rj_bl rfl) rfl ?_
      refine rj_iconst (v := 0) dX12_findsShifts_31 rfl (by decide) ?_
      refine rj_istore_n (l' := [(3, .int 0), (2, .int 0), (0, .ref (ω.2.2 395)), (1, .int (nI j23))]) dX12_findsShifts_32 rfl (rj_bl rfl) rfl ?_
      refine rj_sub (l' := [(0, .ref (ω.2.2 395)), (1, .int (nI j23)), (2, .int 0), (3, .int 0)]) [2, 3, 1, 0] rfl ?_
      refine lX12_findsShifts_33u hω μ j23 s23  hl23  h3 25 0 0 (And.left hqa) ?_
      refine rj_iload_n 2 dX12_findsShifts_71 rfl rfl ?_
      refine rj_aload_n 0 dX12_findsShifts_72 rfl rfl ?_
      refine rj_getR (C0 := RX12) (T := TX12) (N := 16) (j := 1) (r := 396) dX12_findsShifts_73 rfl vX12_findsShifts_12 rfl (rj_lt hω (k := 395) rfl) (rj_sh hω ly_395) (by decide) kX12_findsShifts_9 rfl ?_
      refine rj_sipush (v := 387) dX12_findsShifts_76 rfl (by decide) ?_
      refine rj_iload_n 1 dX12_findsShifts_79 rfl rfl ?_
      refine rj_iadd dX12_findsShifts_80 rfl ?_
      refine rj_iald dX12_findsShifts_81 rfl (rj_lt hω (k := 396) rfl) (rj_sh hω ly_396) (rj_vle (rj_vadd (N := 411) (vp_in_nI (n := 387) (N := 388) (rj_bl rfl) (rj_bl rfl)) (vp_in_nI (N := 24) hl23 (rj_bl rfl)) rfl rfl) rfl) ?_
      refine rj_icmp_ge dX12_findsShifts_82 rfl rfl (fun h6 => ?_) (fun h6 => ?_)
      · skip
        refine rj_iinc (v := nI (j23 + 1)) (l' := [(1, .int (nI (j23 + 1))), (0, .ref (ω.2.2 395)), (2, .int ((rj_we (bX12_findsShifts_33 μ j23 s23) 25 (0, 0)).1)), (3, .int ((rj_we (bX12_findsShifts_33 μ j23 s23) 25 (0, 0)).2))]) 1 dX12_findsShifts_120 rfl rfl (nI_succ j23).symm (rj_bl rfl) rfl ?_
        refine rj_goto dX12_findsShifts_123 rfl ?_
        have e : bX12_findsShifts_23 μ j23 s23 = s23 := by unfold bX12_findsShifts_23; rw [if_pos h6]; try rfl
        exact rj_sub (l' := [(0, .ref (ω.2.2 395)), (1, .int (nI (j23 + 1)))]) [1, 0] rfl (ih (j23 + 1) s23 (by omega) (fun _ => ra_fo_n (hq0 True.intro) e) (by rw [rj_fo_s (r := r), e] at K; exact K))
      · have hq6 := (And.right (And.right hqa)) h6
        refine rj_aload_n 0 dX12_findsShifts_85 rfl rfl ?_
        refine rj_getR (C0 := RX12) (T := TX12) (N := 16) (j := 9) (r := 408) dX12_findsShifts_86 rfl vX12_findsShifts_12 rfl (rj_lt hω (k := 395) rfl) (rj_sh hω ly_395) (by decide) kX12_findsShifts_24 rfl ?_
        refine rj_iload_n 1 dX12_findsShifts_89 rfl rfl ?_
        refine rj_bipush (v := 24) dX12_findsShifts_90 rfl (by decide) ?_
        refine rj_aload_n 0 dX12_findsShifts_92 rfl rfl ?_
        refine rj_getR (C0 := RX12) (T := TX12) (N := 16) (j := 1) (r := 396) dX12_findsShifts_93 rfl vX12_findsShifts_12 rfl (rj_lt hω (k := 395) rfl) (rj_sh hω ly_395) (by decide) kX12_findsShifts_9 rfl ?_
        refine rj_sipush (v := 411) dX12_findsShifts_96 rfl (by decide) ?_
        refine rj_iald dX12_findsShifts_99 rfl (rj_lt hω (k := 396) rfl) (rj_sh hω ly_396) (vp_in_nI (n := 411) (rj_bl rfl) (rj_bl rfl)) ?_
        refine rj_isub dX12_findsShifts_100 rfl ?_
        refine rj_mmin dX12_findsShifts_101 rfl jX12_findsShifts_92_0 jX12_findsShifts_92_1 jX12_findsShifts_92_2 jX12_findsShifts_92_3 (Nat.le_of_ble_eq_true rfl) (Nat.le_of_ble_eq_true rfl) (Nat.le_of_ble_eq_true rfl) (Nat.le_of_ble_eq_true rfl) ?_
        refine rj_dup2 dX12_findsShifts_104 rfl rfl rfl ?_
        refine rj_iald dX12_findsShifts_105 rfl (rj_lt hω (k := 408) rfl) (rj_sh hω ly_408) (And.left hq6) ?_
        refine rj_aload_n 0 dX12_findsShifts_106 rfl rfl ?_
        refine rj_getR (C0 := RX12) (T := TX12) (N := 16) (j := 1) (r := 396) dX12_findsShifts_107 rfl vX12_findsShifts_12 rfl (rj_lt hω (k := 395) rfl) (rj_sh hω ly_395) (by decide) kX12_findsShifts_9 rfl ?_
        refine rj_sipush (v := 387) dX12_findsShifts_110 rfl (by decide) ?_
        refine rj_iload_n 1 dX12_findsShifts_113 rfl rfl ?_
        refine rj_iadd dX12_findsShifts_114 rfl ?_
        refine rj_iald dX12_findsShifts_115 rfl (rj_lt hω (k := 396) rfl) (rj_sh hω ly_396) (rj_vle (rj_vadd (N := 411) (vp_in_nI (n := 387) (N := 388) (rj_bl rfl) (rj_bl rfl)) (vp_in_nI (N := 24) hl23 (rj_bl rfl)) rfl rfl) rfl) ?_
        refine rj_iload_n 2 dX12_findsShifts_116 rfl rfl ?_
        refine rj_isub dX12_findsShifts_117 rfl ?_
        refine rj_iadd dX12_findsShifts_118 rfl ?_
        refine rj_iast dX12_findsShifts_119 rfl (rj_lt hω (k := 408) rfl) (rj_sh hω ly_408) (And.left (And.right hq6)) ?_
        refine rj_iinc (v := nI (j23 + 1)) (l' := [(1, .int (nI (j23 + 1))), (0, .ref (ω.2.2 395)), (2, .int ((rj_we (bX12_findsShifts_33 μ j23 s23) 25 (0, 0)).1)), (3, .int ((rj_we (bX12_findsShifts_33 μ j23 s23) 25 (0, 0)).2))]) 1 dX12_findsShifts_120 rfl rfl (nI_succ j23).symm (rj_bl rfl) rfl ?_
        refine rj_goto dX12_findsShifts_123 rfl ?_
        have e : bX12_findsShifts_23 μ j23 s23 = (rj_pi s23 408 (if (24 - (s23.1 396 (411 : Int32).toNatClampNeg)) < nI j23 then (24 - (s23.1 396 (411 : Int32).toNatClampNeg)) else nI j23).toNatClampNeg ((s23.1 408 (if (24 - (s23.1 396 (411 : Int32).toNatClampNeg)) < nI j23 then (24 - (s23.1 396 (411 : Int32).toNatClampNeg)) else nI j23).toNatClampNeg) + ((s23.1 396 (387 + (nI j23)).toNatClampNeg) - ((rj_we (bX12_findsShifts_33 μ j23 s23) 25 (0, 0)).1)))) := by unfold bX12_findsShifts_23; rw [if_neg h6]; try rfl
        exact rj_sub (l' := [(0, .ref (ω.2.2 395)), (1, .int (nI (j23 + 1)))]) [1, 0] rfl (ih (j23 + 1) (rj_pi s23 408 (if (24 - (s23.1 396 (411 : Int32).toNatClampNeg)) < nI j23 then (24 - (s23.1 396 (411 : Int32).toNatClampNeg)) else nI j23).toNatClampNeg ((s23.1 408 (if (24 - (s23.1 396 (411 : Int32).toNatClampNeg)) < nI j23 then (24 - (s23.1 396 (411 : Int32).toNatClampNeg)) else nI j23).toNatClampNeg) + ((s23.1 396 (387 + (nI j23)).toNatClampNeg) - ((rj_we (bX12_findsShifts_33 μ j23 s23) 25 (0, 0)).1)))) (by omega) (fun _ => ra_fo_n (hq0 True.intro) e) (by rw [rj_fo_s (r := r), e] at K; exact K))
noncomputable def mX12_findsShifts (μ : rj_M) : rj_M := (rj_fo (bX12_findsShifts_23 μ) 24 0 (rj_fo (bX12_findsShifts_2 μ) 24 0 μ))
noncomputable def qX12_findsShifts (μ : rj_M) : Prop := ((True → ra_fo (qX12_findsShifts_23 μ) (bX12_findsShifts_23 μ) 24 0 (rj_fo (bX12_findsShifts_2 μ) 24 0 μ)) ∧ True)
set_option maxHeartbeats 40000000 in
set_option maxRecDepth 100000 in
theorem sX12_findsShifts {g : rj_G} {ω : rj_W} (hω : rj_ok ω) (μ : rj_M)   (hq : qX12_findsShifts μ) : rj_Sp g yX12_findsShifts wsX12_findsShifts (rj_rm 1 0) [.ref (ω.2.2 395)] ω μ (rj_D (.inl none) ω (mX12_findsShifts μ)) := by
  have hqa := hq
  unfold qX12_findsShifts at hqa
  refine rj_of' (cc := cX12_findsShifts) (nL := 4) (ret := none) (own := RX12) (l0 := [(0, .ref (ω.2.2 395))]) rfl (by decide +kernel) rfl (Nat.le_of_ble_eq_true rfl) rfl ?_
  refine rj_iconst (v := 0) dX12_findsShifts_0 rfl (by decide) ?_
  refine rj_istore_n (l' := [(1, .int 0), (0, .ref (ω.2.2 395))]) dX12_findsShifts_1 rfl (rj_bl rfl) rfl ?_
  refine rj_sub (l' := [(0, .ref (ω.2.2 395)), (1, .int (nI 0))]) [1, 0] rfl ?_
  refine lX12_findsShifts_2 hω μ      24 0 μ rfl ?_
  refine rj_iconst (v := 0) dX12_findsShifts_21 rfl (by decide) ?_
  refine rj_istore_n (l' := [(1, .int 0), (0, .ref (ω.2.2 395))]) dX12_findsShifts_22 rfl (rj_bl rfl) rfl ?_
  refine rj_sub (l' := [(0, .ref (ω.2.2 395)), (1, .int (nI 0))]) [1, 0] rfl ?_
  refine lX12_findsShifts_23 hω μ      24 0 (rj_fo (bX12_findsShifts_2 μ) 24 0 μ) rfl (And.left hqa) ?_
  exact rj_vret dX12_findsShifts_126 rfl (Nat.le_of_ble_eq_true rfl) (Nat.le_of_ble_eq_true rfl) ⟨rfl, rfl, (by unfold mX12_findsShifts; rfl)⟩
theorem hSX12_helpersNow : yX12_helpersNow.cls ≠ "java/lang/invoke/MethodHandle" ∧ yX12_helpersNow.cls ≠ "java/lang/invoke/VarHandle" ∧ (parseMethodDescriptor yX12_helpersNow.desc).map (fun d => d.parameters.length) = some 0 := by decide +kernel
theorem hVX12_helpersNow : yX12_helpersNow.cls = RX12 ∧ yX12_helpersNow.cls ≠ "java/lang/invoke/MethodHandle" ∧ yX12_helpersNow.cls ≠ "java/lang/invoke/VarHandle" ∧ (parseMethodDescriptor yX12_helpersNow.desc).map (fun d => d.parameters.length) = some 0 := by decide +kernel
theorem vX12_helpersNow_12 : ∀ w ∈ u_ws RX12 TX12 16, w ∈ wsX12_helpersNow := by decide +kernel
theorem kX12_helpersNow_24 : Cond.fieldLink RX12 24 (TX12 9).1 (TX12 9).2.1 (TX12 9).2.2.1 ∈ wsX12_helpersNow := by decide +kernel
noncomputable def bX12_helpersNow_8 (μ : rj_M) (j8 : Nat) (s8 : Int32) : Int32 := (s8 + ((mX12_findsShifts μ).1 408 (nI j8).toNatClampNeg))
set_option maxHeartbeats 4000000 in
set_option maxRecDepth 100000 in
theorem lX12_helpersNow_8 {g : rj_G} {ω : rj_W} (hω : rj_ok ω) (μ : rj_M)      {F : rj_F} : ∀ (r j : Nat) (s : Int32), j + r = 24 → (rj_R g RX12 cX12_helpersNow 3 (some .int) wsX12_helpersNow [] (rj_rm 2 0) F 0 ω (mX12_findsShifts μ) [(0, .ref (ω.2.2 395)), (1, .int (rj_fo (bX12_helpersNow_8 μ) r j s)), (2, .int (nI 24))] 29 []) → rj_R g RX12 cX12_helpersNow 3 (some .int) wsX12_helpersNow [] (rj_rm 2 0) F 0 ω (mX12_findsShifts μ) [(0, .ref (ω.2.2 395)), (1, .int s), (2, .int (nI j))] 8 [] := by
  intro r
  induction r with
  | zero =>
    intro j s hj K
    have e0 : j = 24 := by omega
    have hge : 24 ≤ nI j := by
      rw [e0]
      exact Int32.le_refl _
    refine rj_iload_n 2 dX12_helpersNow_8 rfl rfl ?_
    refine rj_bipush (v := 24) dX12_helpersNow_9 rfl (by decide) ?_
    refine rj_icmp_ge dX12_helpersNow_11 rfl rfl (fun h2 => ?_) (fun h2 => ?_)
    · have e1 : nI j = nI 24 := by rw [e0]
      rw [e1]
      exact K
    · exact absurd hge h2
  | succ r ih =>
    intro j8 s8 hj K
    have hl8 : j8 < 24 := by omega
    have hg8 : ¬ 24 ≤ nI j8 := nI_ge hl8 (rj_bl rfl)
    refine rj_iload_n 2 dX12_helpersNow_8 rfl rfl ?_
    refine rj_bipush (v := 24) dX12_helpersNow_9 rfl (by decide) ?_
    refine rj_icmp_ge dX12_helpersNow_11 rfl rfl (fun h1 => ?_) (fun h1 => ?_)
    · exact absurd h1 hg8
    · refine rj_iload_n 1 dX12_helpersNow_14 rfl rfl ?_
      refine rj_aload_n 0 dX12_helpersNow_15 rfl rfl ?_
      refine rj_getR (C0 := RX12) (T := TX12) (N := 16) (j := 9) (r := 408) dX12_helpersNow_16 rfl vX12_helpersNow_12 rfl (rj_lt hω (k := 395) rfl) (rj_sh hω ly_395) (by decide) kX12_helpersNow_24 rfl ?_
      refine rj_iload_n 2 dX12_helpersNow_19 rfl rfl ?_
      refine rj_iald dX12_helpersNow_20 rfl (rj_lt hω (k := 408) rfl) (rj_sh hω ly_408) (vp_in_nI hl8 (rj_bl rfl)) ?_
      refine rj_iadd dX12_helpersNow_21 rfl ?_
      refine rj_istore_n (l' := [(1, .int (s8 + ((mX12_findsShifts μ).1 408 (nI j8).toNatClampNeg))), (0, .ref (ω.2.2 395)), (2, .int (nI j8))]) dX12_helpersNow_22 rfl (rj_bl rfl) rfl ?_
      refine rj_iinc (v := nI (j8 + 1)) (l' := [(2, .int (nI (j8 + 1))), (1, .int (s8 + ((mX12_findsShifts μ).1 408 (nI j8).toNatClampNeg))), (0, .ref (ω.2.2 395))]) 2 dX12_helpersNow_23 rfl rfl (nI_succ j8).symm (rj_bl rfl) rfl ?_
      refine rj_goto dX12_helpersNow_26 rfl ?_
      have e : bX12_helpersNow_8 μ j8 s8 = (s8 + ((mX12_findsShifts μ).1 408 (nI j8).toNatClampNeg)) := by unfold bX12_helpersNow_8; rfl
      exact rj_sub (l' := [(0, .ref (ω.2.2 395)), (1, .int (s8 + ((mX12_findsShifts μ).1 408 (nI j8).toNatClampNeg))), (2, .int (nI (j8 + 1)))]) [2, 1, 0] rfl (ih (j8 + 1) (s8 + ((mX12_findsShifts μ).1 408 (nI j8).toNatClampNeg)) (by omega) (by rw [rj_fo_s (r := r), e] at K; exact K))
noncomputable def fX12_helpersNow (μ : rj_M) : Int32 := (rj_fo (bX12_helpersNow_8 μ) 24 0 0)
noncomputable def mX12_helpersNow (μ : rj_M) : rj_M := (mX12_findsShifts μ)
noncomputable def qX12_helpersNow (μ : rj_M) : Prop := (qX12_findsShifts μ ∧ True)
set_option maxHeartbeats 40000000 in
set_option maxRecDepth 100000 in
theorem sX12_helpersNow {g : rj_G} {ω : rj_W} (hω : rj_ok ω) (μ : rj_M)   (hq : qX12_helpersNow μ) : rj_Sp g yX12_helpersNow wsX12_helpersNow (rj_rm 2 0) [.ref (ω.2.2 395)] ω μ (rj_D (.inl (some (.int (fX12_helpersNow μ)))) ω (mX12_helpersNow μ)) := by
  have hqa := hq
  unfold qX12_helpersNow at hqa
  refine rj_of' (cc := cX12_helpersNow) (nL := 3) (ret := (some .int)) (own := RX12) (l0 := [(0, .ref (ω.2.2 395))]) rfl (by decide +kernel) rfl (Nat.le_of_ble_eq_true rfl) rfl ?_
  refine rj_aload_n 0 dX12_helpersNow_0 rfl rfl ?_
  refine rj_cV (rest := []) (sX12_findsShifts (g := g) (ω := ω) hω μ   (And.left hqa)) gX12_helpersNow_X12_findsShifts (rj_lt hω (k := 395) rfl) (rj_sh hω ly_395) rfl rfl hVX12_findsShifts ⟨Nat.le_of_ble_eq_true rfl, Nat.le_of_ble_eq_true rfl⟩ dX12_helpersNow_1 rfl rfl rfl (Nat.le_of_ble_eq_true rfl) rfl (Nat.le_of_ble_eq_true rfl) rfl ?_
  refine rj_iconst (v := 0) dX12_helpersNow_4 rfl (by decide) ?_
  refine rj_istore_n (l' := [(1, .int 0), (0, .ref (ω.2.2 395))]) dX12_helpersNow_5 rfl (rj_bl rfl) rfl ?_
  refine rj_iconst (v := 0) dX12_helpersNow_6 rfl (by decide) ?_
  refine rj_istore_n (l' := [(2, .int 0), (1, .int 0), (0, .ref (ω.2.2 395))]) dX12_helpersNow_7 rfl (rj_bl rfl) rfl ?_
  refine rj_sub (l' := [(0, .ref (ω.2.2 395)), (1, .int 0), (2, .int (nI 0))]) [2, 1, 0] rfl ?_
  refine lX12_helpersNow_8 hω μ      24 0 0 rfl ?_
  refine rj_iload_n 1 dX12_helpersNow_29 rfl rfl ?_
  exact rj_iret dX12_helpersNow_30 rfl (Nat.le_of_ble_eq_true rfl) (Nat.le_of_ble_eq_true rfl) ⟨(by unfold fX12_helpersNow; rfl), rfl, (by unfold mX12_helpersNow; rfl)⟩
