theorem hSX12_tooMany : yX12_tooMany.cls ≠ "java/lang/invoke/MethodHandle" ∧ yX12_tooMany.cls ≠ "java/lang/invoke/VarHandle" ∧ (parseMethodDescriptor yX12_tooMany.desc).map (fun d => d.parameters.length) = some 1 := by decide +kernel
theorem hVX12_tooMany : yX12_tooMany.cls = RX12 ∧ yX12_tooMany.cls ≠ "java/lang/invoke/MethodHandle" ∧ yX12_tooMany.cls ≠ "java/lang/invoke/VarHandle" ∧ (parseMethodDescriptor yX12_tooMany.desc).map (fun d => d.parameters.length) = some 1 := by decide +kernel
noncomputable def bX12_tooMany_2 (μ : rj_M) (a0 : Int32) (j2 : Nat) (s2 : Unit) : Unit ⊕ Int32 := (if (fX12_hasTooMany μ (nI j2) a0) = 0 then .inl () else .inr (nI j2))
set_option maxHeartbeats 4000000 in
set_option maxRecDepth 100000 in
theorem lX12_tooMany_2 {g : rj_G} {ω : rj_W} (hω : rj_ok ω) (μ : rj_M) (a0 : Int32)      {P : rj_P} : ∀ (r j : Nat) (s : Unit), j + r = 16 → (∀ z : Unit, rj_ix (bX12_tooMany_2 μ a0) r j s = .inl z → rj_R g RX12 cX12_tooMany 3 (some .int) wsX12_tooMany [] (rj_rm 2 0) (rj_E g (rj_rm 2 0) P) 0 ω μ [(0, .ref (ω.2.2 395)), (1, .int a0), (2, .int (nI 16))] 25 []) → (∀ z : Int32, rj_ix (bX12_tooMany_2 μ a0) r j s = .inr z → P (.inl (some (.int z))) ω μ) → rj_R g RX12 cX12_tooMany 3 (some .int) wsX12_tooMany [] (rj_rm 2 0) (rj_E g (rj_rm 2 0) P) 0 ω μ [(0, .ref (ω.2.2 395)), (1, .int a0), (2, .int (nI j))] 2 [] := by
  intro r
  induction r with
  | zero =>
    intro j s hj K K2
    have e0 : j = 16 := by omega
    have hge : 16 ≤ nI j := by
      rw [e0]
      exact Int32.le_refl _
    refine rj_iload_n 2 dX12_tooMany_2 rfl rfl ?_
    refine rj_bipush (v := 16) dX12_tooMany_3 rfl (by decide) ?_
    refine rj_icmp_ge dX12_tooMany_5 rfl rfl (fun h3 => ?_) (fun h3 => ?_)
    · have e1 : nI j = nI 16 := by rw [e0]
      rw [e1]
      exact K s rfl
    · exact absurd hge h3
  | succ r ih =>
    intro j2 s2 hj K K2
    have hl2 : j2 < 16 := by omega
    have hg2 : ¬ 16 ≤ nI j2 := nI_ge hl2 (rj_bl rfl)
    refine rj_iload_n 2 dX12_tooMany_2 rfl rfl ?_
    refine rj_bipush (v := 16) dX12_tooMany_3 rfl (by decide) ?_
    refine rj_icmp_ge dX12_tooMany_5 rfl rfl (fun h1 => ?_) (fun h1 => ?_)
    · exact absurd h1 hg2
    · refine rj_aload_n 0 dX12_tooMany_8 rfl rfl ?_
      refine rj_iload_n 2 dX12_tooMany_9 rfl rfl ?_
      refine rj_iload_n 1 dX12_tooMany_10 rfl rfl ?_
      refine rj_cV (rest := []) (sX12_hasTooMany (g := g) (ω := ω) hω μ (nI j2) a0   ) gX12_tooMany_X12_hasTooMany (rj_lt hω (k := 395) rfl) (rj_sh hω ly_395) rfl rfl hVX12_hasTooMany ⟨Nat.le_of_ble_eq_true rfl, Nat.le_of_ble_eq_true rfl⟩ dX12_tooMany_11 rfl rfl rfl (Nat.le_of_ble_eq_true rfl) rfl (Nat.le_of_ble_eq_true rfl) rfl ?_
      refine rj_if_eq dX12_tooMany_14 rfl rfl (fun h2 => ?_) (fun h2 => ?_)
      · refine rj_iinc (v := nI (j2 + 1)) (l' := [(2, .int (nI (j2 + 1))), (0, .ref (ω.2.2 395)), (1, .int a0)]) 2 dX12_tooMany_19 rfl rfl (nI_succ j2).symm (rj_bl rfl) rfl ?_
        refine rj_goto dX12_tooMany_22 rfl ?_
        have e : bX12_tooMany_2 μ a0 j2 s2 = .inl () := by unfold bX12_tooMany_2; rw [if_pos h2]; try rfl
        exact rj_sub (l' := [(0, .ref (ω.2.2 395)), (1, .int a0), (2, .int (nI (j2 + 1)))]) [1, 2, 0] rfl (ih (j2 + 1) () (by omega) (fun z hz => K z (by rw [rj_ix_l e]; exact hz)) (fun z hz => K2 z (by rw [rj_ix_l e]; exact hz)))
      · refine rj_iload_n 2 dX12_tooMany_17 rfl rfl ?_
        have e : bX12_tooMany_2 μ a0 j2 s2 = .inr (nI j2) := by unfold bX12_tooMany_2; rw [if_neg h2]; try rfl
        exact rj_iret dX12_tooMany_18 rfl (Nat.le_of_ble_eq_true rfl) (Nat.le_of_ble_eq_true rfl) (K2 (nI j2) (rj_ix_r e))
noncomputable def fX12_tooMany (μ : rj_M) (a0 : Int32) : Int32 := (Sum.elim (fun z2 => 0) (fun w2 => w2) (rj_ix (bX12_tooMany_2 μ a0) 15 1 ()))
set_option maxHeartbeats 40000000 in
set_option maxRecDepth 100000 in
theorem sX12_tooMany {g : rj_G} {ω : rj_W} (hω : rj_ok ω) (μ : rj_M) (a0 : Int32)   : rj_Sp g yX12_tooMany wsX12_tooMany (rj_rm 2 0) [.ref (ω.2.2 395), .int a0] ω μ (rj_D (.inl (some (.int (fX12_tooMany μ a0)))) ω μ) := by
  refine rj_of' (cc := cX12_tooMany) (nL := 3) (ret := (some .int)) (own := RX12) (l0 := [(0, .ref (ω.2.2 395)), (1, .int a0)]) rfl (by decide +kernel) rfl (Nat.le_of_ble_eq_true rfl) rfl ?_
  refine rj_iconst (v := 1) dX12_tooMany_0 rfl (by decide) ?_
  refine rj_istore_n (l' := [(2, .int 1), (0, .ref (ω.2.2 395)), (1, .int a0)]) dX12_tooMany_1 rfl (rj_bl rfl) rfl ?_
  refine rj_sub (l' := [(0, .ref (ω.2.2 395)), (1, .int a0), (2, .int (nI 1))]) [1, 2, 0] rfl ?_
  refine lX12_tooMany_2 hω μ a0      15 1 () rfl (fun z2 hz2 => ?_) (fun w2 hw2 => ?_)
  · refine rj_iconst (v := 0) dX12_tooMany_25 rfl (by decide) ?_
    exact rj_iret dX12_tooMany_26 rfl (Nat.le_of_ble_eq_true rfl) (Nat.le_of_ble_eq_true rfl) ⟨(by unfold fX12_tooMany; rw [hz2]; simp only [Sum.elim_inl]; try rfl), rfl, rfl⟩
  · exact ⟨(by unfold fX12_tooMany; rw [hw2]; simp only [Sum.elim_inr]; try rfl), rfl, rfl⟩
theorem hSX12_outByNow : yX12_outByNow.cls ≠ "java/lang/invoke/MethodHandle" ∧ yX12_outByNow.cls ≠ "java/lang/invoke/VarHandle" ∧ (parseMethodDescriptor yX12_outByNow.desc).map (fun d => d.parameters.length) = some 0 := by decide +kernel
theorem hVX12_outByNow : yX12_outByNow.cls = RX12 ∧ yX12_outByNow.cls ≠ "java/lang/invoke/MethodHandle" ∧ yX12_outByNow.cls ≠ "java/lang/invoke/VarHandle" ∧ (parseMethodDescriptor yX12_outByNow.desc).map (fun d => d.parameters.length) = some 0 := by decide +kernel
theorem vX12_outByNow_12 : ∀ w ∈ u_ws RX12 TX12 16, w ∈ wsX12_outByNow := by decide +kernel
theorem kX12_outByNow_9 : Cond.fieldLink RX12 9 (TX12 1).1 (TX12 1).2.1 (TX12 1).2.2.1 ∈ wsX12_outByNow := by decide +kernel
noncomputable def bX12_outByNow_6 (μ : rj_M) (j6 : Nat) (s6 : Int32) : Int32 := (s6 + (μ.1 396 (326 + (nI j6)).toNatClampNeg))
set_option maxHeartbeats 4000000 in
set_option maxRecDepth 100000 in
theorem lX12_outByNow_6 {g : rj_G} {ω : rj_W} (hω : rj_ok ω) (μ : rj_M)      {F : rj_F} : ∀ (r j : Nat) (s : Int32), j + r = 4 → (rj_R g RX12 cX12_outByNow 4 (some .int) wsX12_outByNow [] (rj_rm 3 0) F 0 ω μ [(0, .ref (ω.2.2 395)), (1, .int (rj_fo (bX12_outByNow_6 μ) r j s)), (2, .int 0), (3, .int (nI 4))] 30 []) → rj_R g RX12 cX12_outByNow 4 (some .int) wsX12_outByNow [] (rj_rm 3 0) F 0 ω μ [(0, .ref (ω.2.2 395)), (1, .int s), (2, .int 0), (3, .int (nI j))] 6 [] := by
  intro r
  induction r with
  | zero =>
    intro j s hj K
    have e0 : j = 4 := by omega
    have hge : 4 ≤ nI j := by
      rw [e0]
      exact Int32.le_refl _
    refine rj_iload_n 3 dX12_outByNow_6 rfl rfl ?_
    refine rj_iconst (v := 4) dX12_outByNow_7 rfl (by decide) ?_
    refine rj_icmp_ge dX12_outByNow_8 rfl rfl (fun h2 => ?_) (fun h2 => ?_)
    · have e1 : nI j = nI 4 := by rw [e0]
      rw [e1]
      exact K
    · exact absurd hge h2
  | succ r ih =>
    intro j6 s6 hj K
    have hl6 : j6 < 4 := by omega
    have hg6 : ¬ 4 ≤ nI j6 := nI_ge hl6 (rj_bl rfl)
    refine rj_iload_n 3 dX12_outByNow_6 rfl rfl ?_
    refine rj_iconst (v := 4) dX12_outByNow_7 rfl (by decide) ?_
    refine rj_icmp_ge dX12_outByNow_8 rfl rfl (fun h1 => ?_) (fun h1 => ?_)
    · exact absurd h1 hg6
    · refine rj_iload_n 1 dX12_outByNow_11 rfl rfl ?_
      refine rj_aload_n 0 dX12_outByNow_12 rfl rfl ?_
      refine rj_getR (C0 := RX12) (T := TX12) (N := 16) (j := 1) (r := 396) dX12_outByNow_13 rfl vX12_outByNow_12 rfl (rj_lt hω (k := 395) rfl) (rj_sh hω ly_395) (by decide) kX12_outByNow_9 rfl ?_
      refine rj_sipush (v := 326) dX12_outByNow_16 rfl (by decide) ?_
      refine rj_iload_n 3 dX12_outByNow_19 rfl rfl ?_
      refine rj_iadd dX12_outByNow_20 rfl ?_
      refine rj_iald dX12_outByNow_21 rfl (rj_lt hω (k := 396) rfl) (rj_sh hω ly_396) (rj_vle (rj_vadd (N := 330) (vp_in_nI (n := 326) (N := 327) (rj_bl rfl) (rj_bl rfl)) (vp_in_nI (N := 4) hl6 (rj_bl rfl)) rfl rfl) rfl) ?_
      refine rj_iadd dX12_outByNow_22 rfl ?_
      refine rj_istore_n (l' := [(1, .int (s6 + (μ.1 396 (326 + (nI j6)).toNatClampNeg))), (0, .ref (ω.2.2 395)), (2, .int 0), (3, .int (nI j6))]) dX12_outByNow_23 rfl (rj_bl rfl) rfl ?_
      refine rj_iinc (v := nI (j6 + 1)) (l' := [(3, .int (nI (j6 + 1))), (1, .int (s6 + (μ.1 396 (326 + (nI j6)).toNatClampNeg))), (0, .ref (ω.2.2 395)), (2, .int 0)]) 3 dX12_outByNow_24 rfl rfl (nI_succ j6).symm (rj_bl rfl) rfl ?_
      refine rj_goto dX12_outByNow_27 rfl ?_
      have e : bX12_outByNow_6 μ j6 s6 = (s6 + (μ.1 396 (326 + (nI j6)).toNatClampNeg)) := by unfold bX12_outByNow_6; rfl
      exact rj_sub (l' := [(0, .ref (ω.2.2 395)), (1, .int (s6 + (μ.1 396 (326 + (nI j6)).toNatClampNeg))), (2, .int 0), (3, .int (nI (j6 + 1)))]) [2, 1, 3, 0] rfl (ih (j6 + 1) (s6 + (μ.1 396 (326 + (nI j6)).toNatClampNeg)) (by omega) (by rw [rj_fo_s (r := r), e] at K; exact K))
noncomputable def bX12_outByNow_32 (μ : rj_M) (j32 : Nat) (s32 : Int32) : Int32 := (s32 + (μ.1 396 (311 + (nI j32)).toNatClampNeg))
set_option maxHeartbeats 4000000 in
set_option maxRecDepth 100000 in
theorem lX12_outByNow_32 {g : rj_G} {ω : rj_W} (hω : rj_ok ω) (μ : rj_M)      {F : rj_F} : ∀ (r j : Nat) (s : Int32), j + r = 3 → (rj_R g RX12 cX12_outByNow 4 (some .int) wsX12_outByNow [] (rj_rm 3 0) F 0 ω μ [(0, .ref (ω.2.2 395)), (1, .int (rj_fo (bX12_outByNow_6 μ) 4 0 0)), (2, .int (rj_fo (bX12_outByNow_32 μ) r j s)), (3, .int (nI 3))] 56 []) → rj_R g RX12 cX12_outByNow 4 (some .int) wsX12_outByNow [] (rj_rm 3 0) F 0 ω μ [(0, .ref (ω.2.2 395)), (1, .int (rj_fo (bX12_outByNow_6 μ) 4 0 0)), (2, .int s), (3, .int (nI j))] 32 [] := by
  intro r
  induction r with
  | zero =>
    intro j s hj K
    have e0 : j = 3 := by omega
    have hge : 3 ≤ nI j := by
      rw [e0]
      exact Int32.le_refl _
    refine rj_iload_n 3 dX12_outByNow_32 rfl rfl ?_
    refine rj_iconst (v := 3) dX12_outByNow_33 rfl (by decide) ?_
    refine rj_icmp_ge dX12_outByNow_34 rfl rfl (fun h4 => ?_) (fun h4 => ?_)
    · have e1 : nI j = nI 3 := by rw [e0]
      rw [e1]
      exact K
    · exact absurd hge h4
  | succ r ih =>
    intro j32 s32 hj K
    have hl32 : j32 < 3 := by omega
    have hg32 : ¬ 3 ≤ nI j32 := nI_ge hl32 (rj_bl rfl)
    refine rj_iload_n 3 dX12_outByNow_32 rfl rfl ?_
    refine rj_iconst (v := 3) dX12_outByNow_33 rfl (by decide) ?_
    refine rj_icmp_ge dX12_outByNow_34 rfl rfl (fun h3 => ?_) (fun h3 => ?_)
    · exact absurd h3 hg32
    · refine rj_iload_n 2 dX12_outByNow_37 rfl rfl ?_
      refine rj_aload_n 0 dX12_outByNow_38 rfl rfl ?_
      refine rj_getR (C0 := RX12) (T := TX12) (N := 16) (j := 1) (r := 396) dX12_outByNow_39 rfl vX12_outByNow_12 rfl (rj_lt hω (k := 395) rfl) (rj_sh hω ly_395) (by decide) kX12_outByNow_9 rfl ?_
      refine rj_sipush (v := 311) dX12_outByNow_42 rfl (by decide) ?_
      refine rj_iload_n 3 dX12_outByNow_45 rfl rfl ?_
      refine rj_iadd dX12_outByNow_46 rfl ?_
      refine rj_iald dX12_outByNow_47 rfl (rj_lt hω (k := 396) rfl) (rj_sh hω ly_396) (rj_vle (rj_vadd (N := 314) (vp_in_nI (n := 311) (N := 312) (rj_bl rfl) (rj_bl rfl)) (vp_in_nI (N := 3) hl32 (rj_bl rfl)) rfl rfl) rfl) ?_
      refine rj_iadd dX12_outByNow_48 rfl ?_
      refine rj_istore_n (l' := [(2, .int (s32 + (μ.1 396 (311 + (nI j32)).toNatClampNeg))), (0, .ref (ω.2.2 395)), (1, .int (rj_fo (bX12_outByNow_6 μ) 4 0 0)), (3, .int (nI j32))]) dX12_outByNow_49 rfl (rj_bl rfl) rfl ?_
      refine rj_iinc (v := nI (j32 + 1)) (l' := [(3, .int (nI (j32 + 1))), (2, .int (s32 + (μ.1 396 (311 + (nI j32)).toNatClampNeg))), (0, .ref (ω.2.2 395)), (1, .int (rj_fo (bX12_outByNow_6 μ) 4 0 0))]) 3 dX12_outByNow_50 rfl rfl (nI_succ j32).symm (rj_bl rfl) rfl ?_
      refine rj_goto dX12_outByNow_53 rfl ?_
      have e : bX12_outByNow_32 μ j32 s32 = (s32 + (μ.1 396 (311 + (nI j32)).toNatClampNeg)) := by unfold bX12_outByNow_32; rfl
      exact rj_sub (l' := [(0, .ref (ω.2.2 395)), (1, .int (rj_fo (bX12_outByNow_6 μ) 4 0 0)), (2, .int (s32 + (μ.1 396 (311 + (nI j32)).toNatClampNeg))), (3, .int (nI (j32 + 1)))]) [2, 3, 1, 0] rfl (ih (j32 + 1) (s32 + (μ.1 396 (311 + (nI j32)).toNatClampNeg)) (by omega) (by rw [rj_fo_s (r := r), e] at K; exact K))
noncomputable def bX12_outByNow_68 (μ : rj_M) (s68 : Int32) : Int32 ⊕ Int32 := (if (fX12_tooMany μ s68) ≤ 0 then .inr s68 else .inl (s68 + 1))
noncomputable def qX12_outByNow_68 (μ : rj_M) (s68 : Int32) : Prop := True
set_option maxHeartbeats 4000000 in
set_option maxRecDepth 100000 in
theorem lX12_outByNow_68 {g : rj_G} {ω : rj_W} (hω : rj_ok ω) (μ : rj_M)    (h5 : ((rj_fo (bX12_outByNow_6 μ) 4 0 0) ≤ 0)) {F : rj_F} : ∀ (r : Nat) (s : Int32), (True → ra_we (qX12_outByNow_68 μ) (bX12_outByNow_68 μ) r s) → (rj_R g RX12 cX12_outByNow 4 (some .int) wsX12_outByNow [] (rj_rm 3 0) F 0 ω μ [(0, .ref (ω.2.2 395)), (1, .int (rj_fo (bX12_outByNow_6 μ) 4 0 0)), (2, .int (rj_fo (bX12_outByNow_32 μ) 3 0 0)), (3, .int (rj_we (bX12_outByNow_68 μ) r s))] 82 []) → rj_R g RX12 cX12_outByNow 4 (some .int) wsX12_outByNow [] (rj_rm 3 0) F 0 ω μ [(0, .ref (ω.2.2 395)), (1, .int (rj_fo (bX12_outByNow_6 μ) 4 0 0)), (2, .int (rj_fo (bX12_outByNow_32 μ) 3 0 0)), (3, .int s)] 68 [] := by
  intro r
  induction r with
  | zero =>
    intro s hq0 K
    exact (ra_we_0 (hq0 True.intro)).elim
  | succ r ih =>
    intro s68 hq0 K
    have hqa := ra_we_q (hq0 True.intro)
    unfold qX12_outByNow_68 at hqa
    refine rj_aload_n 0 dX12_outByNow_68 rfl rfl ?_
    refine rj_iload_n 3 dX12_outByNow_69 rfl rfl ?_
    refine rj_cV (rest := []) (sX12_tooMany (g := g) (ω := ω) hω μ s68   ) gX12_outByNow_X12_tooMany (rj_lt hω (k := 395) rfl) (rj_sh hω ly_395) rfl rfl hVX12_tooMany ⟨Nat.le_of_ble_eq_true rfl, Nat.le_of_ble_eq_true rfl⟩ dX12_outByNow_70 rfl rfl rfl (Nat.le_of_ble_eq_true rfl) rfl (Nat.le_of_ble_eq_true rfl) rfl ?_
    refine rj_if_le dX12_outByNow_73 rfl rfl (fun h6 => ?_) (fun h6 => ?_)
    · skip
      have e : bX12_outByNow_68 μ s68 = .inr s68 := by unfold bX12_outByNow_68; rw [if_pos h6]; try rfl
      exact rj_sub (l' := [(0, .ref (ω.2.2 395)), (1, .int (rj_fo (bX12_outByNow_6 μ) 4 0 0)), (2, .int (rj_fo (bX12_outByNow_32 μ) 3 0 0)), (3, .int s68)]) [0, 1, 2, 3] rfl (by rw [rj_we_r e] at K; exact K)
    · skip
      refine rj_iinc (v := s68 + 1) (l' := [(3, .int (s68 + 1)), (0, .ref (ω.2.2 395)), (1, .int (rj_fo (bX12_outByNow_6 μ) 4 0 0)), (2, .int (rj_fo (bX12_outByNow_32 μ) 3 0 0))]) 3 dX12_outByNow_76 rfl rfl rfl (rj_bl rfl) rfl ?_
      refine rj_goto dX12_outByNow_79 rfl ?_
      have e : bX12_outByNow_68 μ s68 = .inl (s68 + 1) := by unfold bX12_outByNow_68; rw [if_neg h6]; try rfl
      exact rj_sub (l' := [(0, .ref (ω.2.2 395)), (1, .int (rj_fo (bX12_outByNow_6 μ) 4 0 0)), (2, .int (rj_fo (bX12_outByNow_32 μ) 3 0 0)), (3, .int (s68 + 1))]) [1, 2, 3, 0] rfl (ih (s68 + 1) (fun _ => ra_we_n (hq0 True.intro) e) (by rw [rj_we_l e] at K; exact K))
noncomputable def bX12_outByNow_68v (μ : rj_M) (s68 : Int32) : Int32 ⊕ Int32 := (if (fX12_tooMany μ s68) ≤ 0 then .inr s68 else .inl (s68 + 1))
noncomputable def qX12_outByNow_68v (μ : rj_M) (s68 : Int32) : Prop := True
set_option maxHeartbeats 4000000 in
set_option maxRecDepth 100000 in
theorem lX12_outByNow_68v {g : rj_G} {ω : rj_W} (hω : rj_ok ω) (μ : rj_M)    (h5 : ¬ ((rj_fo (bX12_outByNow_6 μ) 4 0 0) ≤ 0)) (h7 : ¬ ((rj_fo (bX12_outByNow_32 μ) 3 0 0) = 0)) {F : rj_F} : ∀ (r : Nat) (s : Int32), (True → ra_we (qX12_outByNow_68v μ) (bX12_outByNow_68v μ) r s) → (rj_R g RX12 cX12_outByNow 4 (some .int) wsX12_outByNow [] (rj_rm 3 0) F 0 ω μ [(0, .ref (ω.2.2 395)), (1, .int (rj_fo (bX12_outByNow_6 μ) 4 0 0)), (2, .int (rj_fo (bX12_outByNow_32 μ) 3 0 0)), (3, .int (rj_we (bX12_outByNow_68v μ) r s))] 82 []) → rj_R g RX12 cX12_outByNow 4 (some .int) wsX12_outByNow [] (rj_rm 3 0) F 0 ω μ [(0, .ref (ω.2.2 395)), (1, .int (rj_fo (bX12_outByNow_6 μ) 4 0 0)), (2, .int (rj_fo (bX12_outByNow_32 μ) 3 0 0)), (3, .int s)] 68 [] := by
  intro r
  induction r with
  | zero =>
    intro s hq0 K
    exact (ra_we_0 (hq0 True.intro)).elim
  | succ r ih =>
    intro s68 hq0 K
    have hqa := ra_we_q (hq0 True.intro)
    unfold qX12_outByNow_68v at hqa
    refine rj_aload_n 0 dX12_outByNow_68 rfl rfl ?_
    refine rj_iload_n 3 dX12_outByNow_69 rfl rfl ?_
    refine rj_cV (rest := []) (sX12_tooMany (g := g) (ω := ω) hω μ s68   ) gX12_outByNow_X12_tooMany (rj_lt hω (k := 395) rfl) (rj_sh hω ly_395) rfl rfl hVX12_tooMany ⟨Nat.le_of_ble_eq_true rfl, Nat.le_of_ble_eq_true rfl⟩ dX12_outByNow_70 rfl rfl rfl (Nat.le_of_ble_eq_true rfl) rfl (Nat.le_of_ble_eq_true rfl) rfl ?_
    refine rj_if_le dX12_outByNow_73 rfl rfl (fun h8 => ?_) (fun h8 => ?_)
    · skip
      have e : bX12_outByNow_68v μ s68 = .inr s68 := by unfold bX12_outByNow_68v; rw [if_pos h8]; try rfl
      exact rj_sub (l' := [(0, .ref (ω.2.2 395)), (1, .int (rj_fo (bX12_outByNow_6 μ) 4 0 0)), (2, .int (rj_fo (bX12_outByNow_32 μ) 3 0 0)), (3, .int s68)]) [0, 1, 2, 3] rfl (by rw [rj_we_r e] at K; exact K)
    · skip
      refine rj_iinc (v := s68 + 1) (l' := [(3, .int (s68 + 1)), (0, .ref (ω.2.2 395)), (1, .int (rj_fo (bX12_outByNow_6 μ) 4 0 0)), (2, .int (rj_fo (bX12_outByNow_32 μ) 3 0 0))]) 3 dX12_outByNow_76 rfl rfl rfl (rj_bl rfl) rfl ?_
      refine rj_goto dX12_outByNow_79 rfl ?_
      have e : bX12_outByNow_68v μ s68 = .inl (s68 + 1) := by unfold bX12_outByNow_68v; rw [if_neg h8]; try rfl
      exact rj_sub (l' := [(0, .ref (ω.2.2 395)), (1, .int (rj_fo (bX12_outByNow_6 μ) 4 0 0)), (2, .int (rj_fo (bX12_outByNow_32 μ) 3 0 0)), (3, .int (s68 + 1))]) [1, 2, 3, 0] rfl (ih (s68 + 1) (fun _ => ra_we_n (hq0 True.intro) e) (by rw [rj_we_l e] at K; exact K))
noncomputable def fX12_outByNow (μ : rj_M) : Int32 := (if (rj_fo (bX12_outByNow_6 μ) 4 0 0) ≤ 0 then (rj_we (bX12_outByNow_68 μ) 9000 0) else (if (rj_fo (bX12_outByNow_32 μ) 3 0 0) = 0 then (-1) else (rj_we (bX12_outByNow_68v μ) 9000 0)))
noncomputable def qX12_outByNow (μ : rj_M) : Prop := ((((rj_fo (bX12_outByNow_6 μ) 4 0 0) ≤ 0) → ((True → ra_we (qX12_outByNow_68 μ) (bX12_outByNow_68 μ) 9000 0) ∧ True)) ∧ ((¬ ((rj_fo (bX12_outByNow_6 μ) 4 0 0) ≤ 0)) → ((((rj_fo (bX12_outByNow_32 μ) 3 0 0) = 0) → True) ∧ ((¬ ((rj_fo (bX12_outByNow_32 μ) 3 0 0) = 0)) → ((True → ra_we (qX12_outByNow_68v μ) (bX12_outByNow_68v μ) 9000 0) ∧ True)))))
set_option maxHeartbeats 40000000 in
set_option maxRecDepth 100000 in
theorem sX12_outByNow {g : rj_G} {ω : rj_W} (hω : rj_ok ω) (μ : rj_M)   (hq : qX12_outByNow μ) : rj_Sp g yX12_outByNow wsX12_outByNow (rj_rm 3 0) [.ref (ω.2.2 395)] ω μ (rj_D (.inl (some (.int (fX12_outByNow μ)))) ω μ) := by
  have hqa := hq
  unfold qX12_outByNow at hqa
  refine rj_of' (cc := cX12_outByNow) (nL := 4) (ret := (some .int)) (own := RX12) (l0 := [(0, .ref (ω.2.2 395))]) rfl (by decide +kernel) rfl (Nat.le_of_ble_eq_true rfl) rfl ?_
  refine rj_iconst (v := 0) dX12_outByNow_0 rfl (by decide) ?_
  refine rj_istore_n (l' := [(1, .int 0), (0, .ref (ω.2.2 395))]) dX12_outByNow_1 rfl (rj_bl rfl) rfl ?_
  refine rj_iconst (v := 0) dX12_outByNow_2 rfl (by decide) ?_
  refine rj_istore_n (l' := [(2, .int 0), (1, .int 0), (0, .ref (ω.2.2 395))]) dX12_outByNow_3 rfl (rj_bl rfl) rfl ?_
  refine rj_iconst (v := 0) dX12_outByNow_4 rfl (by decide) ?_
  refine rj_istore_n (l' := [(3, .int 0), (2, .int 0), (1, .int 0), (0, .ref (ω.2.2 395))]) dX12_outByNow_5 rfl (rj_bl rfl) rfl ?_
  refine rj_sub (l' := [(0, .ref (ω.2.2 395)), (1, .int 0), (2, .int 0), (3, .int (nI 0))]) [3, 2, 1, 0] rfl ?_
  refine lX12_outByNow_6 hω μ      4 0 0 rfl ?_
  refine rj_iconst (v := 0) dX12_outByNow_30 rfl (by decide) ?_
  refine rj_istore_n (l' := [(3, .int 0), (0, .ref (ω.2.2 395)), (1, .int (rj_fo (bX12_outByNow_6 μ) 4 0 0)), (2, .int 0)]) dX12_outByNow_31 rfl (rj_bl rfl) rfl ?_
  refine rj_sub (l' := [(0, .ref (ω.2.2 395)), (1, .int (rj_fo (bX12_outByNow_6 μ) 4 0 0)), (2, .int 0), (3, .int (nI 0))]) [1, 2, 3, 0] rfl ?_
  refine lX12_outByNow_32 hω μ      3 0 0 rfl ?_
  refine rj_iload_n 1 dX12_outByNow_56 rfl rfl ?_
  refine rj_if_le dX12_outByNow_57 rfl rfl (fun h5 => ?_) (fun h5 => ?_)
  · have hq1 := (And.left hqa) h5
    refine rj_iconst (v := 0) dX12_outByNow_66 rfl (by decide) ?_
    refine rj_istore_n (l' := [(3, .int 0), (0, .ref (ω.2.2 395)), (1, .int (rj_fo (bX12_outByNow_6 μ) 4 0 0)), (2, .int (rj_fo (bX12_outByNow_32 μ) 3 0 0))]) dX12_outByNow_67 rfl (rj_bl rfl) rfl ?_
    refine rj_sub (l' := [(0, .ref (ω.2.2 395)), (1, .int (rj_fo (bX12_outByNow_6 μ) 4 0 0)), (2, .int (rj_fo (bX12_outByNow_32 μ) 3 0 0)), (3, .int 0)]) [1, 2, 3, 0] rfl ?_
    refine lX12_outByNow_68 hω μ    h5 9000 0 (And.left hq1) ?_
    refine rj_iload_n 3 dX12_outByNow_82 rfl rfl ?_
    exact rj_iret dX12_outByNow_83 rfl (Nat.le_of_ble_eq_true rfl) (Nat.le_of_ble_eq_true rfl) ⟨(by unfold fX12_outByNow; rw [if_pos h5]; try rfl), rfl, rfl⟩
  · have hq4 := (And.right hqa) h5
    refine rj_iload_n 2 dX12_outByNow_60 rfl rfl ?_
    refine rj_if_ne dX12_outByNow_61 rfl rfl (fun h7 => ?_) (fun h7 => ?_)
    · have hq5 := (And.right hq4) h7
      refine rj_iconst (v := 0) dX12_outByNow_66 rfl (by decide) ?_
      refine rj_istore_n (l' := [(3, .int 0), (0, .ref (ω.2.2 395)), (1, .int (rj_fo (bX12_outByNow_6 μ) 4 0 0)), (2, .int (rj_fo (bX12_outByNow_32 μ) 3 0 0))]) dX12_outByNow_67 rfl (rj_bl rfl) rfl ?_
      refine rj_sub (l' := [(0, .ref (ω.2.2 395)), (1, .int (rj_fo (bX12_outByNow_6 μ) 4 0 0)), (2, .int (rj_fo (bX12_outByNow_32 μ) 3 0 0)), (3, .int 0)]) [1, 2, 3, 0] rfl ?_
      refine lX12_outByNow_68v hω μ    h5 h7 9000 0 (And.left hq5) ?_
      refine rj_iload_n 3 dX12_outByNow_82 rfl rfl ?_
      exact rj_iret dX12_outByNow_83 rfl (Nat.le_of_ble_eq_true rfl) (Nat.le_of_ble_eq_true rfl) ⟨(by unfold fX12_outByNow; rw [if_neg h5]; rw [if_neg h7]; try rfl), rfl, rfl⟩
    · skip
      refine rj_iconst (v := (-1)) dX12_outByNow_64 rfl (by decide) ?_
      exact rj_iret dX12_outByNow_65 rfl (Nat.le_of_ble_eq_true rfl) (Nat.le_of_ble_eq_true rfl) ⟨(by unfold fX12_outByNow; rw [if_neg h5]; rw [if_pos h7]; try rfl), rfl, rfl⟩
