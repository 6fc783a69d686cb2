theorem hSX12_inLine : yX12_inLine.cls ≠ "java/lang/invoke/MethodHandle" ∧ yX12_inLine.cls ≠ "java/lang/invoke/VarHandle" ∧ (parseMethodDescriptor yX12_inLine.desc).map (fun d => d.parameters.length) = some 2 := by decide +kernel
theorem hVX12_inLine : yX12_inLine.cls = RX12 ∧ yX12_inLine.cls ≠ "java/lang/invoke/MethodHandle" ∧ yX12_inLine.cls ≠ "java/lang/invoke/VarHandle" ∧ (parseMethodDescriptor yX12_inLine.desc).map (fun d => d.parameters.length) = some 2 := by decide +kernel
theorem vX12_inLine_12 : ∀ w ∈ u_ws RX12 TX12 16, w ∈ wsX12_inLine := by decide +kernel
theorem kX12_inLine_9 : Cond.fieldLink RX12 9 (TX12 1).1 (TX12 1).2.1 (TX12 1).2.2.1 ∈ wsX12_inLine := by decide +kernel
noncomputable def fX12_inLine (μ : rj_M) (a0 : Int32) (a1 : Int32) : Int32 := (μ.1 396 (((331 + (13 * a0)) + 1) + a1).toNatClampNeg)
set_option maxHeartbeats 40000000 in
set_option maxRecDepth 100000 in
theorem sX12_inLine {g : rj_G} {ω : rj_W} (hω : rj_ok ω) (μ : rj_M) (a0 : Int32) (a1 : Int32)  (hp_a0 : vp_in a0 3) (hp_a1 : vp_in a1 12)  : rj_Sp g yX12_inLine wsX12_inLine (rj_rm 0 0) [.ref (ω.2.2 395), .int a0, .int a1] ω μ (rj_D (.inl (some (.int (fX12_inLine μ a0 a1)))) ω μ) := by
  refine rj_of' (cc := cX12_inLine) (nL := 3) (ret := (some .int)) (own := RX12) (l0 := [(0, .ref (ω.2.2 395)), (1, .int a0), (2, .int a1)]) rfl (by decide +kernel) rfl (Nat.le_of_ble_eq_true rfl) rfl ?_
  refine rj_aload_n 0 dX12_inLine_0 rfl rfl ?_
  refine rj_getR (C0 := RX12) (T := TX12) (N := 16) (j := 1) (r := 396) dX12_inLine_1 rfl vX12_inLine_12 rfl (rj_lt hω (k := 395) rfl) (rj_sh hω ly_395) (by decide) kX12_inLine_9 rfl ?_
  refine rj_sipush (v := 331) dX12_inLine_4 rfl (by decide) ?_
  refine rj_bipush (v := 13) dX12_inLine_7 rfl (by decide) ?_
  refine rj_iload_n 1 dX12_inLine_9 rfl rfl ?_
  refine rj_imul dX12_inLine_10 rfl ?_
  refine rj_iadd dX12_inLine_11 rfl ?_
  refine rj_iconst (v := 1) dX12_inLine_12 rfl (by decide) ?_
  refine rj_iadd dX12_inLine_13 rfl ?_
  refine rj_iload_n 2 dX12_inLine_14 rfl rfl ?_
  refine rj_iadd dX12_inLine_15 rfl ?_
  refine rj_iald dX12_inLine_16 rfl (rj_lt hω (k := 396) rfl) (rj_sh hω ly_396) (rj_vle (rj_vadd (N := 370) (rj_vadd (N := 359) (rj_vadd (N := 358) (vp_in_nI (n := 331) (N := 332) (rj_bl rfl) (rj_bl rfl)) (rj_vmul (k := 13) (N := 27) hp_a0 rfl rfl) rfl rfl) (vp_in_nI (n := 1) (N := 2) (rj_bl rfl) (rj_bl rfl)) rfl rfl) hp_a1 rfl rfl) rfl) ?_
  exact rj_iret dX12_inLine_17 rfl (Nat.le_of_ble_eq_true rfl) (Nat.le_of_ble_eq_true rfl) ⟨(by unfold fX12_inLine; rfl), rfl, rfl⟩
theorem hSX12_barOf : yX12_barOf.cls ≠ "java/lang/invoke/MethodHandle" ∧ yX12_barOf.cls ≠ "java/lang/invoke/VarHandle" ∧ (parseMethodDescriptor yX12_barOf.desc).map (fun d => d.parameters.length) = some 1 := by decide +kernel
theorem hVX12_barOf : yX12_barOf.cls = RX12 ∧ yX12_barOf.cls ≠ "java/lang/invoke/MethodHandle" ∧ yX12_barOf.cls ≠ "java/lang/invoke/VarHandle" ∧ (parseMethodDescriptor yX12_barOf.desc).map (fun d => d.parameters.length) = some 1 := by decide +kernel
noncomputable def bX12_barOf_9 (μ : rj_M) (a0 : Int32) (j2 : Nat) (s2 : Unit) (j9 : Nat) (s9 : Unit) : Unit ⊕ Int32 := (if (fX12_inLine μ (nI j2) (nI j9)) = a0 then .inr (nI j2) else .inl ())
noncomputable def qX12_barOf_9 (μ : rj_M) (a0 : Int32) (j2 : Nat) (s2 : Unit) (j9 : Nat) (s9 : Unit) : Prop := (vp_in (nI j9) 12 ∧ True)
set_option maxHeartbeats 4000000 in
set_option maxRecDepth 100000 in
theorem lX12_barOf_9 {g : rj_G} {ω : rj_W} (hω : rj_ok ω) (μ : rj_M) (a0 : Int32) (j2 : Nat) (s2 : Unit)   (hl2 : j2 < 3)  (h1 : ¬ (3 ≤ nI j2)) {P : rj_P} : ∀ (r j : Nat) (s : Unit), r = (fX12_lineOf μ (nI j2)).toInt.toNat - j → j < 2 ^ 31 → (True → ra_ix (qX12_barOf_9 μ a0 j2 s2) (bX12_barOf_9 μ a0 j2 s2) r j s) → (∀ z : Unit, rj_ix (bX12_barOf_9 μ a0 j2 s2) r j s = .inl z → rj_R g RX12 cX12_barOf 4 (some .int) wsX12_barOf [] (rj_rm 1 0) (rj_E g (rj_rm 1 0) P) 0 ω μ [(0, .ref (ω.2.2 395)), (1, .int a0), (2, .int (nI j2))] 36 []) → (∀ z : Int32, rj_ix (bX12_barOf_9 μ a0 j2 s2) r j s = .inr z → P (.inl (some (.int z))) ω μ) → rj_R g RX12 cX12_barOf 4 (some .int) wsX12_barOf [] (rj_rm 1 0) (rj_E g (rj_rm 1 0) P) 0 ω μ [(0, .ref (ω.2.2 395)), (1, .int a0), (2, .int (nI j2)), (3, .int (nI j))] 9 [] := by
  intro r
  induction r with
  | zero =>
    intro j s hj hJ hq0 K K2
    have e0 : (fX12_lineOf μ (nI j2)).toInt.toNat ≤ j := by omega
    have hge : (fX12_lineOf μ (nI j2)) ≤ nI j := (rj_leN hJ).mpr e0
    refine rj_iload_n 3 dX12_barOf_9 rfl rfl ?_
    refine rj_aload_n 0 dX12_barOf_10 rfl rfl ?_
    refine rj_iload_n 2 dX12_barOf_11 rfl rfl ?_
    refine rj_cV (rest := [.int (nI j)]) (sX12_lineOf (g := g) (ω := ω) hω μ (nI j2)  (vp_in_nI hl2 (rj_bl rfl)) ) gX12_barOf_X12_lineOf (rj_lt hω (k := 395) rfl) (rj_sh hω ly_395) rfl rfl hVX12_lineOf ⟨Nat.le_of_ble_eq_true rfl, Nat.le_of_ble_eq_true rfl⟩ dX12_barOf_12 rfl rfl rfl (Nat.le_of_ble_eq_true rfl) rfl (Nat.le_of_ble_eq_true rfl) rfl ?_
    refine rj_icmp_ge dX12_barOf_15 rfl rfl (fun h4 => ?_) (fun h4 => ?_)
    · refine rj_sub (l' := [(0, .ref (ω.2.2 395)), (1, .int a0), (2, .int (nI j2))]) [0, 1, 2] rfl ?_
      exact K s rfl
    · exact absurd hge h4
  | succ r ih =>
    intro j9 s9 hj hJ hq0 K K2
    have hl9 : j9 < (fX12_lineOf μ (nI j2)).toInt.toNat := by omega
    have hg9 : ¬ (fX12_lineOf μ (nI j2)) ≤ nI j9 := fun z => absurd ((rj_leN hJ).mp z) (by omega)
    have hN := rj_tN (fX12_lineOf μ (nI j2))
    have hqa := ra_ix_q (hq0 True.intro)
    unfold qX12_barOf_9 at hqa
    refine rj_iload_n 3 dX12_barOf_9 rfl rfl ?_
    refine rj_aload_n 0 dX12_barOf_10 rfl rfl ?_
    refine rj_iload_n 2 dX12_barOf_11 rfl rfl ?_
    refine rj_cV (rest := [.int (nI j9)]) (sX12_lineOf (g := g) (ω := ω) hω μ (nI j2)  (vp_in_nI hl2 (rj_bl rfl)) ) gX12_barOf_X12_lineOf (rj_lt hω (k := 395) rfl) (rj_sh hω ly_395) rfl rfl hVX12_lineOf ⟨Nat.le_of_ble_eq_true rfl, Nat.le_of_ble_eq_true rfl⟩ dX12_barOf_12 rfl rfl rfl (Nat.le_of_ble_eq_true rfl) rfl (Nat.le_of_ble_eq_true rfl) rfl ?_
    refine rj_icmp_ge dX12_barOf_15 rfl rfl (fun h2 => ?_) (fun h2 => ?_)
    · exact absurd h2 hg9
    · refine rj_aload_n 0 dX12_barOf_18 rfl rfl ?_
      refine rj_iload_n 2 dX12_barOf_19 rfl rfl ?_
      refine rj_iload_n 3 dX12_barOf_20 rfl rfl ?_
      refine rj_cV (rest := []) (sX12_inLine (g := g) (ω := ω) hω μ (nI j2) (nI j9)  (vp_in_nI hl2 (rj_bl rfl)) (And.left hqa) ) gX12_barOf_X12_inLine (rj_lt hω (k := 395) rfl) (rj_sh hω ly_395) rfl rfl hVX12_inLine ⟨Nat.le_of_ble_eq_true rfl, Nat.le_of_ble_eq_true rfl⟩ dX12_barOf_21 rfl rfl rfl (Nat.le_of_ble_eq_true rfl) rfl (Nat.le_of_ble_eq_true rfl) rfl ?_
      refine rj_iload_n 1 dX12_barOf_24 rfl rfl ?_
      refine rj_icmp_ne dX12_barOf_25 rfl rfl (fun h3 => ?_) (fun h3 => ?_)
      · skip
        refine rj_iinc (v := nI (j9 + 1)) (l' := [(3, .int (nI (j9 + 1))), (0, .ref (ω.2.2 395)), (1, .int a0), (2, .int (nI j2))]) 3 dX12_barOf_30 rfl rfl (nI_succ j9).symm (rj_bl rfl) rfl ?_
        refine rj_goto dX12_barOf_33 rfl ?_
        have e : bX12_barOf_9 μ a0 j2 s2 j9 s9 = .inl () := by unfold bX12_barOf_9; rw [if_neg h3]; try rfl
        exact rj_sub (l' := [(0, .ref (ω.2.2 395)), (1, .int a0), (2, .int (nI j2)), (3, .int (nI (j9 + 1)))]) [1, 2, 3, 0] rfl (ih (j9 + 1) () (by omega) (by omega) (fun _ => ra_ix_n (hq0 True.intro) e) (fun z hz => K z (by rw [rj_ix_l e]; exact hz)) (fun z hz => K2 z (by rw [rj_ix_l e]; exact hz)))
      · skip
        refine rj_iload_n 2 dX12_barOf_28 rfl rfl ?_
        have e : bX12_barOf_9 μ a0 j2 s2 j9 s9 = .inr (nI j2) := by unfold bX12_barOf_9; rw [if_pos h3]; try rfl
        exact rj_iret dX12_barOf_29 rfl (Nat.le_of_ble_eq_true rfl) (Nat.le_of_ble_eq_true rfl) (K2 (nI j2) (rj_ix_r e))
noncomputable def bX12_barOf_2 (μ : rj_M) (a0 : Int32) (j2 : Nat) (s2 : Unit) : Unit ⊕ Int32 := (Sum.elim (fun z9 => .inl ()) (fun w9 => .inr w9) (rj_ix (bX12_barOf_9 μ a0 j2 s2) ((fX12_lineOf μ (nI j2)).toInt.toNat - 0) 0 ()))
noncomputable def qX12_barOf_2 (μ : rj_M) (a0 : Int32) (j2 : Nat) (s2 : Unit) : Prop := ((True → ra_ix (qX12_barOf_9 μ a0 j2 s2) (bX12_barOf_9 μ a0 j2 s2) ((fX12_lineOf μ (nI j2)).toInt.toNat - 0) 0 ()) ∧ True)
set_option maxHeartbeats 4000000 in
set_option maxRecDepth 100000 in
theorem lX12_barOf_2 {g : rj_G} {ω : rj_W} (hω : rj_ok ω) (μ : rj_M) (a0 : Int32)      {P : rj_P} : ∀ (r j : Nat) (s : Unit), j + r = 3 → (True → ra_ix (qX12_barOf_2 μ a0) (bX12_barOf_2 μ a0) r j s) → (∀ z : Unit, rj_ix (bX12_barOf_2 μ a0) r j s = .inl z → rj_R g RX12 cX12_barOf 4 (some .int) wsX12_barOf [] (rj_rm 1 0) (rj_E g (rj_rm 1 0) P) 0 ω μ [(0, .ref (ω.2.2 395)), (1, .int a0), (2, .int (nI 3))] 42 []) → (∀ z : Int32, rj_ix (bX12_barOf_2 μ a0) r j s = .inr z → P (.inl (some (.int z))) ω μ) → rj_R g RX12 cX12_barOf 4 (some .int) wsX12_barOf [] (rj_rm 1 0) (rj_E g (rj_rm 1 0) P) 0 ω μ [(0, .ref (ω.2.2 395)), (1, .int a0), (2, .int (nI j))] 2 [] := by
  intro r
  induction r with
  | zero =>
    intro j s hj hq0 K K2
    have e0 : j = 3 := by omega
    have hge : 3 ≤ nI j := by
      rw [e0]
      exact Int32.le_refl _
    refine rj_iload_n 2 dX12_barOf_2 rfl rfl ?_
    refine rj_iconst (v := 3) dX12_barOf_3 rfl (by decide) ?_
    refine rj_icmp_ge dX12_barOf_4 rfl rfl (fun h5 => ?_) (fun h5 => ?_)
    · have e1 : nI j = nI 3 := by rw [e0]
      rw [e1]
      exact K s rfl
    · exact absurd hge h5
  | succ r ih =>
    intro j2 s2 hj hq0 K K2
    have hl2 : j2 < 3 := by omega
    have hg2 : ¬ 3 ≤ nI j2 := nI_ge hl2 (rj_bl rfl)
    have hqa := ra_ix_q (hq0 True.intro)
    unfold qX12_barOf_2 at hqa
    refine rj_iload_n 2 dX12_barOf_2 rfl rfl ?_
    refine rj_iconst (v := 3) dX12_barOf_3 rfl (by decide) ?_
    refine rj_icmp_ge dX12_barOf_4 rfl rfl (fun h1 => ?_) (fun h1 => ?_)
    · exact absurd h1 hg2
    · refine rj_iconst (v := 0) dX12_barOf_7 rfl (by decide) ?_
      refine rj_istore_n (l' := [(3, .int 0), (0, .ref (ω.2.2 395)), (1, .int a0), (2, .int (nI j2))]) dX12_barOf_8 rfl (rj_bl rfl) rfl ?_
      refine rj_sub (l' := [(0, .ref (ω.2.2 395)), (1, .int a0), (2, .int (nI j2)), (3, .int (nI 0))]) [1, 2, 3, 0] rfl ?_
      refine lX12_barOf_9 hω μ a0 j2 s2   hl2  h1 ((fX12_lineOf μ (nI j2)).toInt.toNat - 0) 0 () rfl (rj_bl rfl) (And.left hqa) (fun z9 hz9 => ?_) (fun w9 hw9 => ?_)
      · skip
        refine rj_iinc (v := nI (j2 + 1)) (l' := [(2, .int (nI (j2 + 1))), (0, .ref (ω.2.2 395)), (1, .int a0)]) 2 dX12_barOf_36 rfl rfl (nI_succ j2).symm (rj_bl rfl) rfl ?_
        refine rj_goto dX12_barOf_39 rfl ?_
        have e : bX12_barOf_2 μ a0 j2 s2 = .inl () := by unfold bX12_barOf_2; rw [hz9]; simp only [Sum.elim_inl]; try rfl
        exact rj_sub (l' := [(0, .ref (ω.2.2 395)), (1, .int a0), (2, .int (nI (j2 + 1)))]) [1, 2, 0] rfl (ih (j2 + 1) () (by omega) (fun _ => ra_ix_n (hq0 True.intro) e) (fun z hz => K z (by rw [rj_ix_l e]; exact hz)) (fun z hz => K2 z (by rw [rj_ix_l e]; exact hz)))
      · have e : bX12_barOf_2 μ a0 j2 s2 = .inr w9 := by unfold bX12_barOf_2; rw [hw9]; simp only [Sum.elim_inr]; try rfl
        exact K2 w9 (rj_ix_r e)
noncomputable def fX12_barOf (μ : rj_M) (a0 : Int32) : Int32 := (Sum.elim (fun z2 => (-1)) (fun w2 => w2) (rj_ix (bX12_barOf_2 μ a0) 3 0 ()))
noncomputable def qX12_barOf (μ : rj_M) (a0 : Int32) : Prop := ((True → ra_ix (qX12_barOf_2 μ a0) (bX12_barOf_2 μ a0) 3 0 ()) ∧ True)
set_option maxHeartbeats 40000000 in
set_option maxRecDepth 100000 in
theorem sX12_barOf {g : rj_G} {ω : rj_W} (hω : rj_ok ω) (μ : rj_M) (a0 : Int32)   (hq : qX12_barOf μ a0) : rj_Sp g yX12_barOf wsX12_barOf (rj_rm 1 0) [.ref (ω.2.2 395), .int a0] ω μ (rj_D (.inl (some (.int (fX12_barOf μ a0)))) ω μ) := by
  have hqa := hq
  unfold qX12_barOf at hqa
  refine rj_of' (cc := cX12_barOf) (nL := 4) (ret := (some .int)) (own := RX12) (l0 := [(0, .ref (ω.2.2 395)), (1, .int a0)]) rfl (by decide +kernel) rfl (Nat.le_of_ble_eq_true rfl) rfl ?_
  refine rj_iconst (v := 0) dX12_barOf_0 rfl (by decide) ?_
  refine rj_istore_n (l' := [(2, .int 0), (0, .ref (ω.2.2 395)), (1, .int a0)]) dX12_barOf_1 rfl (rj_bl rfl) rfl ?_
  refine rj_sub (l' := [(0, .ref (ω.2.2 395)), (1, .int a0), (2, .int (nI 0))]) [1, 2, 0] rfl ?_
  refine lX12_barOf_2 hω μ a0      3 0 () rfl (And.left hqa) (fun z2 hz2 => ?_) (fun w2 hw2 => ?_)
  · skip
    refine rj_iconst (v := (-1)) dX12_barOf_42 rfl (by decide) ?_
    exact rj_iret dX12_barOf_43 rfl (Nat.le_of_ble_eq_true rfl) (Nat.le_of_ble_eq_true rfl) ⟨(by unfold fX12_barOf; rw [hz2]; simp only [Sum.elim_inl]; try rfl), rfl, rfl⟩
  · exact ⟨(by unfold fX12_barOf; rw [hw2]; simp only [Sum.elim_inr]; try rfl), rfl, rfl⟩
