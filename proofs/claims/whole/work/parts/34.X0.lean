theorem hSX0_barOf : yX0_barOf.cls ≠ "java/lang/invoke/MethodHandle" ∧ yX0_barOf.cls ≠ "java/lang/invoke/VarHandle" ∧ (parseMethodDescriptor yX0_barOf.desc).map (fun d => d.parameters.length) = some 1 := by decide +kernel
theorem hVX0_barOf : yX0_barOf.cls = RX0 ∧ yX0_barOf.cls ≠ "java/lang/invoke/MethodHandle" ∧ yX0_barOf.cls ≠ "java/lang/invoke/VarHandle" ∧ (parseMethodDescriptor yX0_barOf.desc).map (fun d => d.parameters.length) = some 1 := by decide +kernel
theorem vX0_barOf_0 : ∀ w ∈ u_ws RX0 TX0 7, w ∈ wsX0_barOf := by decide +kernel
theorem kX0_barOf_19 : Cond.fieldLink RX0 19 (TX0 2).1 (TX0 2).2.1 (TX0 2).2.2.1 ∈ wsX0_barOf := by decide +kernel
def fX0_barOf (μ : rj_M) (a0 : Int32) : Int32 := (if a0 < 0 then (-1) else (if a0 < 12 then (μ.1 23 a0.toNatClampNeg) else (-1)))
set_option maxHeartbeats 4000000 in
set_option maxRecDepth 100000 in
theorem sX0_barOf {g : rj_G} {ω : rj_W} (hω : rj_ok ω) (μ : rj_M) (a0 : Int32)   : rj_Sp g yX0_barOf wsX0_barOf (rj_rm 0 0) [.ref (ω.2.2 21), .int a0] ω μ (rj_D (.inl (some (.int (fX0_barOf μ a0)))) ω μ) := by
  refine rj_of' (cc := cX0_barOf) (nL := 2) (ret := (some .int)) (own := RX0) (l0 := [(0, .ref (ω.2.2 21)), (1, .int a0)]) rfl (by decide +kernel) rfl (Nat.le_of_ble_eq_true rfl) rfl ?_
  refine rj_iload_n 1 dX0_barOf_0 rfl rfl ?_
  refine rj_if_lt dX0_barOf_1 rfl rfl (fun h1 => ?_) (fun h1 => ?_)
  · refine rj_iconst (v := (-1)) dX0_barOf_10 rfl (by decide) ?_
    refine rj_goto dX0_barOf_11 rfl ?_
    exact rj_iret dX0_barOf_20 rfl (Nat.le_of_ble_eq_true rfl) (Nat.le_of_ble_eq_true rfl) ⟨(by unfold fX0_barOf; rw [if_pos h1]; try rfl), rfl, rfl⟩
  · refine rj_iload_n 1 dX0_barOf_4 rfl rfl ?_
    refine rj_bipush (v := 12) dX0_barOf_5 rfl (by decide) ?_
    refine rj_icmp_lt dX0_barOf_7 rfl rfl (fun h2 => ?_) (fun h2 => ?_)
    · refine rj_aload_n 0 dX0_barOf_14 rfl rfl ?_
      refine rj_getR (C0 := RX0) (T := TX0) (N := 7) (j := 2) (r := 23) dX0_barOf_15 rfl vX0_barOf_0 rfl (rj_lt hω (k := 21) rfl) (rj_sh hω ly_21) (by decide) kX0_barOf_19 rfl ?_
      refine rj_iload_n 1 dX0_barOf_18 rfl rfl ?_
      refine rj_iald dX0_barOf_19 rfl (rj_lt hω (k := 23) rfl) (rj_sh hω ly_23) (rj_in h1 (Int32.not_le.mpr h2) rfl) ?_
      exact rj_iret dX0_barOf_20 rfl (Nat.le_of_ble_eq_true rfl) (Nat.le_of_ble_eq_true rfl) ⟨(by unfold fX0_barOf; rw [if_neg h1]; rw [if_pos h2]; try rfl), rfl, rfl⟩
    · refine rj_iconst (v := (-1)) dX0_barOf_10 rfl (by decide) ?_
      refine rj_goto dX0_barOf_11 rfl ?_
      exact rj_iret dX0_barOf_20 rfl (Nat.le_of_ble_eq_true rfl) (Nat.le_of_ble_eq_true rfl) ⟨(by unfold fX0_barOf; rw [if_neg h1]; rw [if_neg h2]; try rfl), rfl, rfl⟩
theorem hSX0_firstOf : yX0_firstOf.cls ≠ "java/lang/invoke/MethodHandle" ∧ yX0_firstOf.cls ≠ "java/lang/invoke/VarHandle" ∧ (parseMethodDescriptor yX0_firstOf.desc).map (fun d => d.parameters.length) = some 1 := by decide +kernel
theorem hVX0_firstOf : yX0_firstOf.cls = RX0 ∧ yX0_firstOf.cls ≠ "java/lang/invoke/MethodHandle" ∧ yX0_firstOf.cls ≠ "java/lang/invoke/VarHandle" ∧ (parseMethodDescriptor yX0_firstOf.desc).map (fun d => d.parameters.length) = some 1 := by decide +kernel
theorem vX0_firstOf_0 : ∀ w ∈ u_ws RX0 TX0 7, w ∈ wsX0_firstOf := by decide +kernel
theorem kX0_firstOf_15 : Cond.fieldLink RX0 15 (TX0 1).1 (TX0 1).2.1 (TX0 1).2.2.1 ∈ wsX0_firstOf := by decide +kernel
theorem kX0_firstOf_9 : Cond.fieldLink RX0 9 (TX0 0).1 (TX0 0).2.1 (TX0 0).2.2.1 ∈ wsX0_firstOf := by decide +kernel
def bX0_firstOf_2 (μ : rj_M) (a0 : Int32) (j2 : Nat) (s2 : Unit) : (Unit ⊕ Unit) ⊕ Int32 := (if (μ.1 21 1) ≤ nI j2 then .inl (.inr ()) else (if (fX0_barOf μ (μ.1 22 (nI j2).toNatClampNeg)) = a0 then .inr (μ.1 22 (nI j2).toNatClampNeg) else .inl (.inl ())))
set_option maxHeartbeats 4000000 in
set_option maxRecDepth 100000 in
theorem lX0_firstOf_2 {g : rj_G} {ω : rj_W} (hω : rj_ok ω) (μ : rj_M) (a0 : Int32)     {P : rj_P} : ∀ (r j : Nat) (s : Unit), j + r = 12 → (∀ z : Unit, rj_mx (bX0_firstOf_2 μ a0) r j s = .inl z → rj_R g RX0 cX0_firstOf 3 (some .int) wsX0_firstOf [] (rj_rm 1 0) (rj_E g (rj_rm 1 0) P) 0 ω μ [(0, .ref (ω.2.2 21)), (1, .int a0)] 43 []) → (∀ z : Int32, rj_mx (bX0_firstOf_2 μ a0) r j s = .inr z → P (.inl (some (.int z))) ω μ) → rj_R g RX0 cX0_firstOf 3 (some .int) wsX0_firstOf [] (rj_rm 1 0) (rj_E g (rj_rm 1 0) P) 0 ω μ [(0, .ref (ω.2.2 21)), (1, .int a0), (2, .int (nI j))] 2 [] := by
  intro r
  induction r with
  | zero =>
    intro j s hj K K2
    have e0 : j = 12 := by omega
    have hge : 12 ≤ nI j := by
      rw [e0]
      exact Int32.le_refl _
    refine rj_iload_n 2 dX0_firstOf_2 rfl rfl ?_
    refine rj_bipush (v := 12) dX0_firstOf_3 rfl (by decide) ?_
    refine rj_icmp_ge dX0_firstOf_5 rfl rfl (fun h4 => ?_) (fun h4 => ?_)
    · refine rj_sub (l' := [(0, .ref (ω.2.2 21)), (1, .int a0)]) [0, 1] rfl ?_
      exact K s rfl
    · exact absurd hge h4
  | succ r ih =>
    intro j2 s2 hj K K2
    have hl2 : j2 < 12 := by omega
    have hg2 : ¬ 12 ≤ nI j2 := nI_ge hl2 (rj_bl rfl)
    refine rj_iload_n 2 dX0_firstOf_2 rfl rfl ?_
    refine rj_bipush (v := 12) dX0_firstOf_3 rfl (by decide) ?_
    refine rj_icmp_ge dX0_firstOf_5 rfl rfl (fun h1 => ?_) (fun h1 => ?_)
    · exact absurd h1 hg2
    · refine rj_iload_n 2 dX0_firstOf_8 rfl rfl ?_
      refine rj_aload_n 0 dX0_firstOf_9 rfl rfl ?_
      refine rj_getI (C0 := RX0) (T := TX0) (N := 7) (j := 1) dX0_firstOf_10 rfl vX0_firstOf_0 rfl (rj_lt hω (k := 21) rfl) (rj_sh hω ly_21) (by decide) kX0_firstOf_15 rfl ?_
      refine rj_icmp_ge dX0_firstOf_13 rfl rfl (fun h2 => ?_) (fun h2 => ?_)
      · have e : bX0_firstOf_2 μ a0 j2 s2 = .inl (.inr ()) := by unfold bX0_firstOf_2; rw [if_pos h2]; try rfl
        exact rj_sub (l' := [(0, .ref (ω.2.2 21)), (1, .int a0)]) [0, 1] rfl (K () (rj_mx_b e))
      · refine rj_aload_n 0 dX0_firstOf_16 rfl rfl ?_
        refine rj_aload_n 0 dX0_firstOf_17 rfl rfl ?_
        refine rj_getR (C0 := RX0) (T := TX0) (N := 7) (j := 0) (r := 22) dX0_firstOf_18 rfl vX0_firstOf_0 rfl (rj_lt hω (k := 21) rfl) (rj_sh hω ly_21) (by decide) kX0_firstOf_9 rfl ?_
        refine rj_iload_n 2 dX0_firstOf_21 rfl rfl ?_
        refine rj_iald dX0_firstOf_22 rfl (rj_lt hω (k := 22) rfl) (rj_sh hω ly_22) (vp_in_nI hl2 (rj_bl rfl)) ?_
        refine rj_cV (rest := []) (sX0_barOf (g := g) (ω := ω) hω μ (μ.1 22 (nI j2).toNatClampNeg)  ) gX0_firstOf_X0_barOf (rj_lt hω (k := 21) rfl) (rj_sh hω ly_21) rfl rfl hVX0_barOf ⟨Nat.le_of_ble_eq_true rfl, Nat.le_of_ble_eq_true rfl⟩ dX0_firstOf_23 rfl rfl rfl (Nat.le_of_ble_eq_true rfl) rfl (Nat.le_of_ble_eq_true rfl) rfl ?_
        refine rj_iload_n 1 dX0_firstOf_26 rfl rfl ?_
        refine rj_icmp_ne dX0_firstOf_27 rfl rfl (fun h3 => ?_) (fun h3 => ?_)
        · refine rj_iinc (v := nI (j2 + 1)) (l' := [(2, .int (nI (j2 + 1))), (0, .ref (ω.2.2 21)), (1, .int a0)]) 2 dX0_firstOf_37 rfl rfl (nI_succ j2).symm (rj_bl rfl) rfl ?_
          refine rj_goto dX0_firstOf_40 rfl ?_
          have e : bX0_firstOf_2 μ a0 j2 s2 = .inl (.inl ()) := by unfold bX0_firstOf_2; rw [if_neg h2]; rw [if_neg h3]; try rfl
          exact rj_sub (l' := [(0, .ref (ω.2.2 21)), (1, .int a0), (2, .int (nI (j2 + 1)))]) [1, 2, 0] rfl (ih (j2 + 1) () (by omega) (fun z hz => K z (by rw [rj_mx_l e]; exact hz)) (fun z hz => K2 z (by rw [rj_mx_l e]; exact hz)))
        · refine rj_aload_n 0 dX0_firstOf_30 rfl rfl ?_
          refine rj_getR (C0 := RX0) (T := TX0) (N := 7) (j := 0) (r := 22) dX0_firstOf_31 rfl vX0_firstOf_0 rfl (rj_lt hω (k := 21) rfl) (rj_sh hω ly_21) (by decide) kX0_firstOf_9 rfl ?_
          refine rj_iload_n 2 dX0_firstOf_34 rfl rfl ?_
          refine rj_iald dX0_firstOf_35 rfl (rj_lt hω (k := 22) rfl) (rj_sh hω ly_22) (vp_in_nI hl2 (rj_bl rfl)) ?_
          have e : bX0_firstOf_2 μ a0 j2 s2 = .inr (μ.1 22 (nI j2).toNatClampNeg) := by unfold bX0_firstOf_2; rw [if_neg h2]; rw [if_pos h3]; try rfl
          exact rj_iret dX0_firstOf_36 rfl (Nat.le_of_ble_eq_true rfl) (Nat.le_of_ble_eq_true rfl) (K2 (μ.1 22 (nI j2).toNatClampNeg) (rj_mx_r e))
def fX0_firstOf (μ : rj_M) (a0 : Int32) : Int32 := (Sum.elim (fun z2 => (-1)) (fun w2 => w2) (rj_mx (bX0_firstOf_2 μ a0) 12 0 ()))
set_option maxHeartbeats 4000000 in
set_option maxRecDepth 100000 in
theorem sX0_firstOf {g : rj_G} {ω : rj_W} (hω : rj_ok ω) (μ : rj_M) (a0 : Int32)   : rj_Sp g yX0_firstOf wsX0_firstOf (rj_rm 1 0) [.ref (ω.2.2 21), .int a0] ω μ (rj_D (.inl (some (.int (fX0_firstOf μ a0)))) ω μ) := by
  refine rj_of' (cc := cX0_firstOf) (nL := 3) (ret := (some .int)) (own := RX0) (l0 := [(0, .ref (ω.2.2 21)), (1, .int a0)]) rfl (by decide +kernel) rfl (Nat.le_of_ble_eq_true rfl) rfl ?_
  refine rj_iconst (v := 0) dX0_firstOf_0 rfl (by decide) ?_
  refine rj_istore_n (l' := [(2, .int 0), (0, .ref (ω.2.2 21)), (1, .int a0)]) dX0_firstOf_1 rfl (rj_bl rfl) rfl ?_
  refine rj_sub (l' := [(0, .ref (ω.2.2 21)), (1, .int a0), (2, .int (nI 0))]) [1, 2, 0] rfl ?_
  refine lX0_firstOf_2 hω μ a0     12 0 () rfl (fun z2 hz2 => ?_) (fun w2 hw2 => ?_)
  · refine rj_iconst (v := (-1)) dX0_firstOf_43 rfl (by decide) ?_
    exact rj_iret dX0_firstOf_44 rfl (Nat.le_of_ble_eq_true rfl) (Nat.le_of_ble_eq_true rfl) ⟨(by unfold fX0_firstOf; rw [hz2]; simp only [Sum.elim_inl]; try rfl), rfl, rfl⟩
  · exact ⟨(by unfold fX0_firstOf; rw [hw2]; simp only [Sum.elim_inr]; try rfl), rfl, rfl⟩
theorem hSX0_lengthOf : yX0_lengthOf.cls ≠ "java/lang/invoke/MethodHandle" ∧ yX0_lengthOf.cls ≠ "java/lang/invoke/VarHandle" ∧ (parseMethodDescriptor yX0_lengthOf.desc).map (fun d => d.parameters.length) = some 1 := by decide +kernel
theorem hVX0_lengthOf : yX0_lengthOf.cls = RX0 ∧ yX0_lengthOf.cls ≠ "java/lang/invoke/MethodHandle" ∧ yX0_lengthOf.cls ≠ "java/lang/invoke/VarHandle" ∧ (parseMethodDescriptor yX0_lengthOf.desc).map (fun d => d.parameters.length) = some 1 := by decide +kernel
theorem vX0_lengthOf_0 : ∀ w ∈ u_ws RX0 TX0 7, w ∈ wsX0_lengthOf := by decide +kernel
theorem kX0_lengthOf_19 : Cond.fieldLink RX0 19 (TX0 2).1 (TX0 2).2.1 (TX0 2).2.2.1 ∈ wsX0_lengthOf := by decide +kernel
def bX0_lengthOf_4 (μ : rj_M) (a0 : Int32) (j4 : Nat) (s4 : Int32) : Int32 := (if (μ.1 23 (nI j4).toNatClampNeg) = a0 then (s4 + 1) else s4)
set_option maxHeartbeats 4000000 in
set_option maxRecDepth 100000 in
theorem lX0_lengthOf_4 {g : rj_G} {ω : rj_W} (hω : rj_ok ω) (μ : rj_M) (a0 : Int32)     {F : rj_F} : ∀ (r j : Nat) (s : Int32), j + r = 12 → (rj_R g RX0 cX0_lengthOf 4 (some .int) wsX0_lengthOf [] (rj_rm 0 0) F 0 ω μ [(0, .ref (ω.2.2 21)), (1, .int a0), (2, .int (rj_fo (bX0_lengthOf_4 μ a0) r j s)), (3, .int (nI 12))] 29 []) → rj_R g RX0 cX0_lengthOf 4 (some .int) wsX0_lengthOf [] (rj_rm 0 0) F 0 ω μ [(0, .ref (ω.2.2 21)), (1, .int a0), (2, .int s), (3, .int (nI j))] 4 [] := by
  intro r
  induction r with
  | zero =>
    intro j s hj K
    have e0 : j = 12 := by omega
    have hge : 12 ≤ nI j := by
      rw [e0]
      exact Int32.le_refl _
    refine rj_iload_n 3 dX0_lengthOf_4 rfl rfl ?_
    refine rj_bipush (v := 12) dX0_lengthOf_5 rfl (by decide) ?_
    refine rj_icmp_ge dX0_lengthOf_7 rfl rfl (fun h3 => ?_) (fun h3 => ?_)
    · have e1 : nI j = nI 12 := by rw [e0]
      rw [e1]
      exact K
    · exact absurd hge h3
  | succ r ih =>
    intro j4 s4 hj K
    have hl4 : j4 < 12 := by omega
    have hg4 : ¬ 12 ≤ nI j4 := nI_ge hl4 (rj_bl rfl)
    refine rj_iload_n 3 dX0_lengthOf_4 rfl rfl ?_
    refine rj_bipush (v := 12) dX0_lengthOf_5 rfl (by decide) ?_
    refine rj_icmp_ge dX0_lengthOf_7 rfl rfl (fun h1 => ?_) (fun h1 => ?_)
    · exact absurd h1 hg4
    · refine rj_aload_n 0 dX0_lengthOf_10 rfl rfl ?_
      refine rj_getR (C0 := RX0) (T := TX0) (N := 7) (j := 2) (r := 23) dX0_lengthOf_11 rfl vX0_lengthOf_0 rfl (rj_lt hω (k := 21) rfl) (rj_sh hω ly_21) (by decide) kX0_lengthOf_19 rfl ?_
      refine rj_iload_n 3 dX0_lengthOf_14 rfl rfl ?_
      refine rj_iald dX0_lengthOf_15 rfl (rj_lt hω (k := 23) rfl) (rj_sh hω ly_23) (vp_in_nI hl4 (rj_bl rfl)) ?_
      refine rj_iload_n 1 dX0_lengthOf_16 rfl rfl ?_
      refine rj_icmp_ne dX0_lengthOf_17 rfl rfl (fun h2 => ?_) (fun h2 => ?_)
      · refine rj_iinc (v := nI (j4 + 1)) (l' := [(3, .int (nI (j4 + 1))), (0, .ref (ω.2.2 21)), (1, .int a0), (2, .int s4)]) 3 dX0_lengthOf_23 rfl rfl (nI_succ j4).symm (rj_bl rfl) rfl ?_
        refine rj_goto dX0_lengthOf_26 rfl ?_
        have e : bX0_lengthOf_4 μ a0 j4 s4 = s4 := by unfold bX0_lengthOf_4; rw [if_neg h2]; try rfl
        exact rj_sub (l' := [(0, .ref (ω.2.2 21)), (1, .int a0), (2, .int s4), (3, .int (nI (j4 + 1)))]) [1, 2, 3, 0] rfl (ih (j4 + 1) s4 (by omega) (by rw [rj_fo_s, e] at K; exact K))
      · refine rj_iinc (v := s4 + 1) (l' := [(2, .int (s4 + 1)), (0, .ref (ω.2.2 21)), (1, .int a0), (3, .int (nI j4))]) 2 dX0_lengthOf_20 rfl rfl rfl (rj_bl rfl) rfl ?_
        refine rj_iinc (v := nI (j4 + 1)) (l' := [(3, .int (nI (j4 + 1))), (2, .int (s4 + 1)), (0, .ref (ω.2.2 21)), (1, .int a0)]) 3 dX0_lengthOf_23 rfl rfl (nI_succ j4).symm (rj_bl rfl) rfl ?_
        refine rj_goto dX0_lengthOf_26 rfl ?_
        have e : bX0_lengthOf_4 μ a0 j4 s4 = (s4 + 1) := by unfold bX0_lengthOf_4; rw [if_pos h2]; try rfl
        exact rj_sub (l' := [(0, .ref (ω.2.2 21)), (1, .int a0), (2, .int (s4 + 1)), (3, .int (nI (j4 + 1)))]) [2, 3, 1, 0] rfl (ih (j4 + 1) (s4 + 1) (by omega) (by rw [rj_fo_s, e] at K; exact K))
def fX0_lengthOf (μ : rj_M) (a0 : Int32) : Int32 := (rj_fo (bX0_lengthOf_4 μ a0) 12 0 0)
set_option maxHeartbeats 4000000 in
set_option maxRecDepth 100000 in
theorem sX0_lengthOf {g : rj_G} {ω : rj_W} (hω : rj_ok ω) (μ : rj_M) (a0 : Int32)   : rj_Sp g yX0_lengthOf wsX0_lengthOf (rj_rm 0 0) [.ref (ω.2.2 21), .int a0] ω μ (rj_D (.inl (some (.int (fX0_lengthOf μ a0)))) ω μ) := by
  refine rj_of' (cc := cX0_lengthOf) (nL := 4) (ret := (some .int)) (own := RX0) (l0 := [(0, .ref (ω.2.2 21)), (1, .int a0)]) rfl (by decide +kernel) rfl (Nat.le_of_ble_eq_true rfl) rfl ?_
  refine rj_iconst (v := 0) dX0_lengthOf_0 rfl (by decide) ?_
  refine rj_istore_n (l' := [(2, .int 0), (0, .ref (ω.2.2 21)), (1, .int a0)]) dX0_lengthOf_1 rfl (rj_bl rfl) rfl ?_
  refine rj_iconst (v := 0) dX0_lengthOf_2 rfl (by decide) ?_
  refine rj_istore_n (l' := [(3, .int 0), (2, .int 0), (0, .ref (ω.2.2 21)), (1, .int a0)]) dX0_lengthOf_3 rfl (rj_bl rfl) rfl ?_
  refine rj_sub (l' := [(0, .ref (ω.2.2 21)), (1, .int a0), (2, .int 0), (3, .int (nI 0))]) [2, 3, 1, 0] rfl ?_
  refine lX0_lengthOf_4 hω μ a0     12 0 0 rfl ?_
  refine rj_iload_n 2 dX0_lengthOf_29 rfl rfl ?_
  exact rj_iret dX0_lengthOf_30 rfl (Nat.le_of_ble_eq_true rfl) (Nat.le_of_ble_eq_true rfl) ⟨(by unfold fX0_lengthOf; rfl), rfl, rfl⟩
theorem hSX0_enter : yX0_enter.cls ≠ "java/lang/invoke/MethodHandle" ∧ yX0_enter.cls ≠ "java/lang/invoke/VarHandle" ∧ (parseMethodDescriptor yX0_enter.desc).map (fun d => d.parameters.length) = some 2 := by decide +kernel
theorem hVX0_enter : yX0_enter.cls = RX0 ∧ yX0_enter.cls ≠ "java/lang/invoke/MethodHandle" ∧ yX0_enter.cls ≠ "java/lang/invoke/VarHandle" ∧ (parseMethodDescriptor yX0_enter.desc).map (fun d => d.parameters.length) = some 2 := by decide +kernel
theorem vX0_enter_0 : ∀ w ∈ u_ws RX0 TX0 7, w ∈ wsX0_enter := by decide +kernel
theorem kX0_enter_9 : Cond.fieldLink RX0 9 (TX0 0).1 (TX0 0).2.1 (TX0 0).2.2.1 ∈ wsX0_enter := by decide +kernel
theorem kX0_enter_15 : Cond.fieldLink RX0 15 (TX0 1).1 (TX0 1).2.1 (TX0 1).2.2.1 ∈ wsX0_enter := by decide +kernel
theorem jX0_enter_49_i : Cond.initialized yX11_replace.cls ∈ wsX0_enter := by decide +kernel
theorem jX0_enter_49_s : Cond.static yX11_replace ∈ wsX0_enter := by decide +kernel
theorem jX0_enter_49_n : (RX0, 49, yX11_replace, "Festivalgrounds") ∈ rj_nw := by decide +kernel
theorem jX0_enter_53_0 : Cond.methodLink RX0 53 Lib.Math.min.name ∈ wsX0_enter := by decide +kernel
theorem jX0_enter_53_1 : Cond.static Lib.Math.min.name ∈ wsX0_enter := by decide +kernel
theorem jX0_enter_53_2 : Cond.initialized "java/lang/Math" ∈ wsX0_enter := by decide +kernel
theorem jX0_enter_53_3 : Cond.code Lib.Math.min.name Lib.Math.min.code 2 (some .int) ∈ wsX0_enter := by decide +kernel
theorem kX0_enter_19 : Cond.fieldLink RX0 19 (TX0 2).1 (TX0 2).2.1 (TX0 2).2.2.1 ∈ wsX0_enter := by decide +kernel
theorem kX0_enter_22 : Cond.fieldLink RX0 22 (TX0 3).1 (TX0 3).2.1 (TX0 3).2.2.1 ∈ wsX0_enter := by decide +kernel
theorem kX0_enter_28 : Cond.fieldLink RX0 28 (TX0 5).1 (TX0 5).2.1 (TX0 5).2.2.1 ∈ wsX0_enter := by decide +kernel
def mX0_enter (μ : rj_M) (a0 : Int32) (a1 : Int32) : rj_M := (if (fX0_firstOf μ a0) = (-1) then (mX11_replace (rj_pi (mX11_replace (mX11_replace μ 24 3 a0 (μ.1 21 5)) 22 12 ((mX11_replace μ 24 3 a0 (μ.1 21 5)).1 21 1) a1) 21 1 (if 12 < (((mX11_replace (mX11_replace μ 24 3 a0 (μ.1 21 5)) 22 12 ((mX11_replace μ 24 3 a0 (μ.1 21 5)).1 21 1) a1).1 21 1) + 1) then 12 else (((mX11_replace (mX11_replace μ 24 3 a0 (μ.1 21 5)) 22 12 ((mX11_replace μ 24 3 a0 (μ.1 21 5)).1 21 1) a1).1 21 1) + 1))) 23 12 a1 a0) else (mX11_replace (rj_pi (mX11_replace μ 22 12 (μ.1 21 1) a1) 21 1 (if 12 < (((mX11_replace μ 22 12 (μ.1 21 1) a1).1 21 1) + 1) then 12 else (((mX11_replace μ 22 12 (μ.1 21 1) a1).1 21 1) + 1))) 23 12 a1 a0))
set_option maxHeartbeats 4000000 in
set_option maxRecDepth 100000 in
theorem sX0_enter {g : rj_G} {ω : rj_W} (hω : rj_ok ω) (μ : rj_M) (a0 : Int32) (a1 : Int32)   : rj_Sp g yX0_enter wsX0_enter (rj_rm 2 0) [.ref (ω.2.2 21), .int a0, .int a1] ω μ (rj_D (.inl none) ω (mX0_enter μ a0 a1)) := by
  refine rj_of' (cc := cX0_enter) (nL := 3) (ret := none) (own := RX0) (l0 := [(0, .ref (ω.2.2 21)), (1, .int a0), (2, .int a1)]) rfl (by decide +kernel) rfl (Nat.le_of_ble_eq_true rfl) rfl ?_
  refine rj_aload_n 0 dX0_enter_0 rfl rfl ?_
  refine rj_iload_n 1 dX0_enter_1 rfl rfl ?_
  refine rj_cV (rest := []) (sX0_firstOf (g := g) (ω := ω) hω μ a0  ) gX0_enter_X0_firstOf (rj_lt hω (k := 21) rfl) (rj_sh hω ly_21) rfl rfl hVX0_firstOf ⟨Nat.le_of_ble_eq_true rfl, Nat.le_of_ble_eq_true rfl⟩ dX0_enter_2 rfl rfl rfl (Nat.le_of_ble_eq_true rfl) rfl (Nat.le_of_ble_eq_true rfl) rfl ?_
  refine rj_iconst (v := (-1)) dX0_enter_5 rfl (by decide) ?_
  refine rj_icmp_ne dX0_enter_6 rfl rfl (fun h1 => ?_) (fun h1 => ?_)
  · refine rj_aload_n 0 dX0_enter_22 rfl rfl ?_
    refine rj_getR (C0 := RX0) (T := TX0) (N := 7) (j := 0) (r := 22) dX0_enter_23 rfl vX0_enter_0 rfl (rj_lt hω (k := 21) rfl) (rj_sh hω ly_21) (by decide) kX0_enter_9 rfl ?_
    refine rj_aload_n 0 dX0_enter_26 rfl rfl ?_
    refine rj_getI (C0 := RX0) (T := TX0) (N := 7) (j := 1) dX0_enter_27 rfl vX0_enter_0 rfl (rj_lt hω (k := 21) rfl) (rj_sh hω ly_21) (by decide) kX0_enter_15 rfl ?_
    refine rj_iload_n 2 dX0_enter_30 rfl rfl ?_
    refine rj_cSN (rest := []) (sX11_replace (g := g) (ω := ω) μ 22 12 (μ.1 21 1) a1 (rj_lt hω (k := 22) rfl) (rj_sh hω ly_22) (rj_bl rfl) ) ggX0_enter_X11_replace jX0_enter_49_i jX0_enter_49_s jX0_enter_49_n rfl hSX11_replace ⟨Nat.le_of_ble_eq_true rfl, Nat.le_of_ble_eq_true rfl⟩ dX0_enter_31 rfl rfl rfl (Nat.le_of_ble_eq_true rfl) rfl (Nat.le_of_ble_eq_true rfl) rfl ?_
    refine rj_pop dX0_enter_34 rfl rfl ?_
    refine rj_aload_n 0 dX0_enter_35 rfl rfl ?_
    refine rj_aload_n 0 dX0_enter_36 rfl rfl ?_
    refine rj_getI (C0 := RX0) (T := TX0) (N := 7) (j := 1) dX0_enter_37 rfl vX0_enter_0 rfl (rj_lt hω (k := 21) rfl) (rj_sh hω ly_21) (by decide) kX0_enter_15 rfl ?_
    refine rj_iconst (v := 1) dX0_enter_40 rfl (by decide) ?_
    refine rj_iadd dX0_enter_41 rfl ?_
    refine rj_bipush (v := 12) dX0_enter_42 rfl (by decide) ?_
    refine rj_mmin dX0_enter_44 rfl jX0_enter_53_0 jX0_enter_53_1 jX0_enter_53_2 jX0_enter_53_3 (Nat.le_of_ble_eq_true rfl) (Nat.le_of_ble_eq_true rfl) (Nat.le_of_ble_eq_true rfl) (Nat.le_of_ble_eq_true rfl) ?_
    refine rj_putI (C0 := RX0) (T := TX0) (N := 7) (j := 1) dX0_enter_47 rfl vX0_enter_0 rfl (rj_lt hω (k := 21) rfl) (rj_sh hω ly_21) (by decide) kX0_enter_15 tyX0 tyX0_ok nmX0 rfl rfl rfl rfl ?_
    refine rj_aload_n 0 dX0_enter_50 rfl rfl ?_
    refine rj_getR (C0 := RX0) (T := TX0) (N := 7) (j := 2) (r := 23) dX0_enter_51 rfl vX0_enter_0 rfl (rj_lt hω (k := 21) rfl) (rj_sh hω ly_21) (by decide) kX0_enter_19 rfl ?_
    refine rj_iload_n 2 dX0_enter_54 rfl rfl ?_
    refine rj_iload_n 1 dX0_enter_55 rfl rfl ?_
    refine rj_cSN (rest := []) (sX11_replace (g := g) (ω := ω) (rj_pi (mX11_replace μ 22 12 (μ.1 21 1) a1) 21 1 (if 12 < (((mX11_replace μ 22 12 (μ.1 21 1) a1).1 21 1) + 1) then 12 else (((mX11_replace μ 22 12 (μ.1 21 1) a1).1 21 1) + 1))) 23 12 a1 a0 (rj_lt hω (k := 23) rfl) (rj_sh hω ly_23) (rj_bl rfl) ) ggX0_enter_X11_replace jX0_enter_49_i jX0_enter_49_s jX0_enter_49_n rfl hSX11_replace ⟨Nat.le_of_ble_eq_true rfl, Nat.le_of_ble_eq_true rfl⟩ dX0_enter_56 rfl rfl rfl (Nat.le_of_ble_eq_true rfl) rfl (Nat.le_of_ble_eq_true rfl) rfl ?_
    refine rj_pop dX0_enter_59 rfl rfl ?_
    exact rj_vret dX0_enter_60 rfl (Nat.le_of_ble_eq_true rfl) (Nat.le_of_ble_eq_true rfl) ⟨rfl, rfl, (by unfold mX0_enter; rw [if_neg h1]; try rfl)⟩
  · refine rj_aload_n 0 dX0_enter_9 rfl rfl ?_
    refine rj_getR (C0 := RX0) (T := TX0) (N := 7) (j := 3) (r := 24) dX0_enter_10 rfl vX0_enter_0 rfl (rj_lt hω (k := 21) rfl) (rj_sh hω ly_21) (by decide) kX0_enter_22 rfl ?_
    refine rj_iload_n 1 dX0_enter_13 rfl rfl ?_
    refine rj_aload_n 0 dX0_enter_14 rfl rfl ?_
    refine rj_getI (C0 := RX0) (T := TX0) (N := 7) (j := 5) dX0_enter_15 rfl vX0_enter_0 rfl (rj_lt hω (k := 21) rfl) (rj_sh hω ly_21) (by decide) kX0_enter_28 rfl ?_
    refine rj_cSN (rest := []) (sX11_replace (g := g) (ω := ω) μ 24 3 a0 (μ.1 21 5) (rj_lt hω (k := 24) rfl) (rj_sh hω ly_24) (rj_bl rfl) ) ggX0_enter_X11_replace jX0_enter_49_i jX0_enter_49_s jX0_enter_49_n rfl hSX11_replace ⟨Nat.le_of_ble_eq_true rfl, Nat.le_of_ble_eq_true rfl⟩ dX0_enter_18 rfl rfl rfl (Nat.le_of_ble_eq_true rfl) rfl (Nat.le_of_ble_eq_true rfl) rfl ?_
    refine rj_pop dX0_enter_21 rfl rfl ?_
    refine rj_aload_n 0 dX0_enter_22 rfl rfl ?_
    refine rj_getR (C0 := RX0) (T := TX0) (N := 7) (j := 0) (r := 22) dX0_enter_23 rfl vX0_enter_0 rfl (rj_lt hω (k := 21) rfl) (rj_sh hω ly_21) (by decide) kX0_enter_9 rfl ?_
    refine rj_aload_n 0 dX0_enter_26 rfl rfl ?_
    refine rj_getI (C0 := RX0) (T := TX0) (N := 7) (j := 1) dX0_enter_27 rfl vX0_enter_0 rfl (rj_lt hω (k := 21) rfl) (rj_sh hω ly_21) (by decide) kX0_enter_15 rfl ?_
    refine rj_iload_n 2 dX0_enter_30 rfl rfl ?_
    refine rj_cSN (rest := []) (sX11_replace (g := g) (ω := ω) (mX11_replace μ 24 3 a0 (μ.1 21 5)) 22 12 ((mX11_replace μ 24 3 a0 (μ.1 21 5)).1 21 1) a1 (rj_lt hω (k := 22) rfl) (rj_sh hω ly_22) (rj_bl rfl) ) ggX0_enter_X11_replace jX0_enter_49_i jX0_enter_49_s jX0_enter_49_n rfl hSX11_replace ⟨Nat.le_of_ble_eq_true rfl, Nat.le_of_ble_eq_true rfl⟩ dX0_enter_31 rfl rfl rfl (Nat.le_of_ble_eq_true rfl) rfl (Nat.le_of_ble_eq_true rfl) rfl ?_
    refine rj_pop dX0_enter_34 rfl rfl ?_
    refine rj_aload_n 0 dX0_enter_35 rfl rfl ?_
    refine rj_aload_n 0 dX0_enter_36 rfl rfl ?_
    refine rj_getI (C0 := RX0) (T := TX0) (N := 7) (j := 1) dX0_enter_37 rfl vX0_enter_0 rfl (rj_lt hω (k := 21) rfl) (rj_sh hω ly_21) (by decide) kX0_enter_15 rfl ?_
    refine rj_iconst (v := 1) dX0_enter_40 rfl (by decide) ?_
    refine rj_iadd dX0_enter_41 rfl ?_
    refine rj_bipush (v := 12) dX0_enter_42 rfl (by decide) ?_
    refine rj_mmin dX0_enter_44 rfl jX0_enter_53_0 jX0_enter_53_1 jX0_enter_53_2 jX0_enter_53_3 (Nat.le_of_ble_eq_true rfl) (Nat.le_of_ble_eq_true rfl) (Nat.le_of_ble_eq_true rfl) (Nat.le_of_ble_eq_true rfl) ?_
    refine rj_putI (C0 := RX0) (T := TX0) (N := 7) (j := 1) dX0_enter_47 rfl vX0_enter_0 rfl (rj_lt hω (k := 21) rfl) (rj_sh hω ly_21) (by decide) kX0_enter_15 tyX0 tyX0_ok nmX0 rfl rfl rfl rfl ?_
    refine rj_aload_n 0 dX0_enter_50 rfl rfl ?_
    refine rj_getR (C0 := RX0) (T := TX0) (N := 7) (j := 2) (r := 23) dX0_enter_51 rfl vX0_enter_0 rfl (rj_lt hω (k := 21) rfl) (rj_sh hω ly_21) (by decide) kX0_enter_19 rfl ?_
    refine rj_iload_n 2 dX0_enter_54 rfl rfl ?_
    refine rj_iload_n 1 dX0_enter_55 rfl rfl ?_
    refine rj_cSN (rest := []) (sX11_replace (g := g) (ω := ω) (rj_pi (mX11_replace (mX11_replace μ 24 3 a0 (μ.1 21 5)) 22 12 ((mX11_replace μ 24 3 a0 (μ.1 21 5)).1 21 1) a1) 21 1 (if 12 < (((mX11_replace (mX11_replace μ 24 3 a0 (μ.1 21 5)) 22 12 ((mX11_replace μ 24 3 a0 (μ.1 21 5)).1 21 1) a1).1 21 1) + 1) then 12 else (((mX11_replace (mX11_replace μ 24 3 a0 (μ.1 21 5)) 22 12 ((mX11_replace μ 24 3 a0 (μ.1 21 5)).1 21 1) a1).1 21 1) + 1))) 23 12 a1 a0 (rj_lt hω (k := 23) rfl) (rj_sh hω ly_23) (rj_bl rfl) ) ggX0_enter_X11_replace jX0_enter_49_i jX0_enter_49_s jX0_enter_49_n rfl hSX11_replace ⟨Nat.le_of_ble_eq_true rfl, Nat.le_of_ble_eq_true rfl⟩ dX0_enter_56 rfl rfl rfl (Nat.le_of_ble_eq_true rfl) rfl (Nat.le_of_ble_eq_true rfl) rfl ?_
    refine rj_pop dX0_enter_59 rfl rfl ?_
    exact rj_vret dX0_enter_60 rfl (Nat.le_of_ble_eq_true rfl) (Nat.le_of_ble_eq_true rfl) ⟨rfl, rfl, (by unfold mX0_enter; rw [if_pos h1]; try rfl)⟩
theorem hSX0_takeOut : yX0_takeOut.cls ≠ "java/lang/invoke/MethodHandle" ∧ yX0_takeOut.cls ≠ "java/lang/invoke/VarHandle" ∧ (parseMethodDescriptor yX0_takeOut.desc).map (fun d => d.parameters.length) = some 1 := by decide +kernel
theorem hVX0_takeOut : yX0_takeOut.cls = RX0 ∧ yX0_takeOut.cls ≠ "java/lang/invoke/MethodHandle" ∧ yX0_takeOut.cls ≠ "java/lang/invoke/VarHandle" ∧ (parseMethodDescriptor yX0_takeOut.desc).map (fun d => d.parameters.length) = some 1 := by decide +kernel
theorem vX0_takeOut_0 : ∀ w ∈ u_ws RX0 TX0 7, w ∈ wsX0_takeOut := by decide +kernel
theorem kX0_takeOut_15 : Cond.fieldLink RX0 15 (TX0 1).1 (TX0 1).2.1 (TX0 1).2.2.1 ∈ wsX0_takeOut := by decide +kernel
theorem kX0_takeOut_9 : Cond.fieldLink RX0 9 (TX0 0).1 (TX0 0).2.1 (TX0 0).2.2.1 ∈ wsX0_takeOut := by decide +kernel
theorem jX0_takeOut_49_i : Cond.initialized yX11_replace.cls ∈ wsX0_takeOut := by decide +kernel
theorem jX0_takeOut_49_s : Cond.static yX11_replace ∈ wsX0_takeOut := by decide +kernel
theorem jX0_takeOut_49_n : (RX0, 49, yX11_replace, "Festivalgrounds") ∈ rj_nw := by decide +kernel
theorem kX0_takeOut_19 : Cond.fieldLink RX0 19 (TX0 2).1 (TX0 2).2.1 (TX0 2).2.2.1 ∈ wsX0_takeOut := by decide +kernel
theorem kX0_takeOut_22 : Cond.fieldLink RX0 22 (TX0 3).1 (TX0 3).2.1 (TX0 3).2.2.1 ∈ wsX0_takeOut := by decide +kernel
theorem kX0_takeOut_28 : Cond.fieldLink RX0 28 (TX0 5).1 (TX0 5).2.1 (TX0 5).2.2.1 ∈ wsX0_takeOut := by decide +kernel
def bX0_takeOut_33 (μ : rj_M) (a0 : Int32) (j33 : Nat) (s33 : Int32 × rj_M) : (Int32 × rj_M) ⊕ (Nat × (Int32 × rj_M)) := (if (s33.2.1 21 1) ≤ nI j33 then .inr (j33, (s33.1, s33.2)) else (if (s33.2.1 22 (nI j33).toNatClampNeg) = a0 then .inl (s33.1, s33.2) else .inl (s33.1 + 1, (mX11_replace s33.2 22 12 s33.1 (s33.2.1 22 (nI j33).toNatClampNeg)))))
set_option maxHeartbeats 4000000 in
set_option maxRecDepth 100000 in
theorem lX0_takeOut_33 {g : rj_G} {ω : rj_W} (hω : rj_ok ω) (μ : rj_M) (a0 : Int32)     {F : rj_F} : ∀ (r j : Nat) (s : Int32 × rj_M), j + r = 12 → (rj_R g RX0 cX0_takeOut 5 none wsX0_takeOut [] (rj_rm 2 0) F 0 ω ((rj_br (bX0_takeOut_33 μ a0) r j s).2.2) [(0, .ref (ω.2.2 21)), (1, .int a0), (2, .int (fX0_barOf μ a0)), (3, .int ((rj_br (bX0_takeOut_33 μ a0) r j s).2.1)), (4, .int (nI (rj_br (bX0_takeOut_33 μ a0) r j s).1))] 85 []) → rj_R g RX0 cX0_takeOut 5 none wsX0_takeOut [] (rj_rm 2 0) F 0 ω s.2 [(0, .ref (ω.2.2 21)), (1, .int a0), (2, .int (fX0_barOf μ a0)), (3, .int s.1), (4, .int (nI j))] 33 [] := by
  intro r
  induction r with
  | zero =>
    intro j s hj K
    have e0 : j = 12 := by omega
    have hge : 12 ≤ nI j := by
      rw [e0]
      exact Int32.le_refl _
    refine rj_iload 4 dX0_takeOut_33 rfl rfl ?_
    refine rj_bipush (v := 12) dX0_takeOut_35 rfl (by decide) ?_
    refine rj_icmp_ge dX0_takeOut_37 rfl rfl (fun h5 => ?_) (fun h5 => ?_)
    · rw [rj_br_0] at K
      exact K
    · exact absurd hge h5
  | succ r ih =>
    intro j33 s33 hj K
    have hl33 : j33 < 12 := by omega
    have hg33 : ¬ 12 ≤ nI j33 := nI_ge hl33 (rj_bl rfl)
    refine rj_iload 4 dX0_takeOut_33 rfl rfl ?_
    refine rj_bipush (v := 12) dX0_takeOut_35 rfl (by decide) ?_
    refine rj_icmp_ge dX0_takeOut_37 rfl rfl (fun h2 => ?_) (fun h2 => ?_)
    · exact absurd h2 hg33
    · refine rj_iload 4 dX0_takeOut_40 rfl rfl ?_
      refine rj_aload_n 0 dX0_takeOut_42 rfl rfl ?_
      refine rj_getI (C0 := RX0) (T := TX0) (N := 7) (j := 1) dX0_takeOut_43 rfl vX0_takeOut_0 rfl (rj_lt hω (k := 21) rfl) (rj_sh hω ly_21) (by decide) kX0_takeOut_15 rfl ?_
      refine rj_icmp_ge dX0_takeOut_46 rfl rfl (fun h3 => ?_) (fun h3 => ?_)
      · have e : bX0_takeOut_33 μ a0 j33 s33 = .inr (j33, (s33.1, s33.2)) := by unfold bX0_takeOut_33; rw [if_pos h3]; try rfl
        exact rj_sub (l' := [(0, .ref (ω.2.2 21)), (1, .int a0), (2, .int (fX0_barOf μ a0)), (3, .int s33.1), (4, .int (nI j33))]) [0, 1, 2, 3, 4] rfl (by rw [rj_br_r e] at K; exact K)
      · refine rj_aload_n 0 dX0_takeOut_49 rfl rfl ?_
        refine rj_getR (C0 := RX0) (T := TX0) (N := 7) (j := 0) (r := 22) dX0_takeOut_50 rfl vX0_takeOut_0 rfl (rj_lt hω (k := 21) rfl) (rj_sh hω ly_21) (by decide) kX0_takeOut_9 rfl ?_
        refine rj_iload 4 dX0_takeOut_53 rfl rfl ?_
        refine rj_iald dX0_takeOut_55 rfl (rj_lt hω (k := 22) rfl) (rj_sh hω ly_22) (vp_in_nI hl33 (rj_bl rfl)) ?_
        refine rj_iload_n 1 dX0_takeOut_56 rfl rfl ?_
        refine rj_icmp_eq dX0_takeOut_57 rfl rfl (fun h4 => ?_) (fun h4 => ?_)
        · refine rj_iinc (v := nI (j33 + 1)) (l' := [(4, .int (nI (j33 + 1))), (0, .ref (ω.2.2 21)), (1, .int a0), (2, .int (fX0_barOf μ a0)), (3, .int s33.1)]) 4 dX0_takeOut_79 rfl rfl (nI_succ j33).symm (rj_bl rfl) rfl ?_
          refine rj_goto dX0_takeOut_82 rfl ?_
          have e : bX0_takeOut_33 μ a0 j33 s33 = .inl (s33.1, s33.2) := by unfold bX0_takeOut_33; rw [if_neg h3]; rw [if_pos h4]; try rfl
          exact rj_sub (l' := [(0, .ref (ω.2.2 21)), (1, .int a0), (2, .int (fX0_barOf μ a0)), (3, .int s33.1), (4, .int (nI (j33 + 1)))]) [1, 2, 3, 4, 0] rfl (ih (j33 + 1) (s33.1, s33.2) (by omega) (by rw [rj_br_l e] at K; exact K))
        · refine rj_aload_n 0 dX0_takeOut_60 rfl rfl ?_
          refine rj_getR (C0 := RX0) (T := TX0) (N := 7) (j := 0) (r := 22) dX0_takeOut_61 rfl vX0_takeOut_0 rfl (rj_lt hω (k := 21) rfl) (rj_sh hω ly_21) (by decide) kX0_takeOut_9 rfl ?_
          refine rj_iload_n 3 dX0_takeOut_64 rfl rfl ?_
          refine rj_aload_n 0 dX0_takeOut_65 rfl rfl ?_
          refine rj_getR (C0 := RX0) (T := TX0) (N := 7) (j := 0) (r := 22) dX0_takeOut_66 rfl vX0_takeOut_0 rfl (rj_lt hω (k := 21) rfl) (rj_sh hω ly_21) (by decide) kX0_takeOut_9 rfl ?_
          refine rj_iload 4 dX0_takeOut_69 rfl rfl ?_
          refine rj_iald dX0_takeOut_71 rfl (rj_lt hω (k := 22) rfl) (rj_sh hω ly_22) (vp_in_nI hl33 (rj_bl rfl)) ?_
          refine rj_cSN (rest := []) (sX11_replace (g := g) (ω := ω) s33.2 22 12 s33.1 (s33.2.1 22 (nI j33).toNatClampNeg) (rj_lt hω (k := 22) rfl) (rj_sh hω ly_22) (rj_bl rfl) ) ggX0_takeOut_X11_replace jX0_takeOut_49_i jX0_takeOut_49_s jX0_takeOut_49_n rfl hSX11_replace ⟨Nat.le_of_ble_eq_true rfl, Nat.le_of_ble_eq_true rfl⟩ dX0_takeOut_72 rfl rfl rfl (Nat.le_of_ble_eq_true rfl) rfl (Nat.le_of_ble_eq_true rfl) rfl ?_
          refine rj_pop dX0_takeOut_75 rfl rfl ?_
          refine rj_iinc (v := s33.1 + 1) (l' := [(3, .int (s33.1 + 1)), (0, .ref (ω.2.2 21)), (1, .int a0), (2, .int (fX0_barOf μ a0)), (4, .int (nI j33))]) 3 dX0_takeOut_76 rfl rfl rfl (rj_bl rfl) rfl ?_
          refine rj_iinc (v := nI (j33 + 1)) (l' := [(4, .int (nI (j33 + 1))), (3, .int (s33.1 + 1)), (0, .ref (ω.2.2 21)), (1, .int a0), (2, .int (fX0_barOf μ a0))]) 4 dX0_takeOut_79 rfl rfl (nI_succ j33).symm (rj_bl rfl) rfl ?_
          refine rj_goto dX0_takeOut_82 rfl ?_
          have e : bX0_takeOut_33 μ a0 j33 s33 = .inl (s33.1 + 1, (mX11_replace s33.2 22 12 s33.1 (s33.2.1 22 (nI j33).toNatClampNeg))) := by unfold bX0_takeOut_33; rw [if_neg h3]; rw [if_neg h4]; try rfl
          exact rj_sub (l' := [(0, .ref (ω.2.2 21)), (1, .int a0), (2, .int (fX0_barOf μ a0)), (3, .int (s33.1 + 1)), (4, .int (nI (j33 + 1)))]) [2, 3, 4, 1, 0] rfl (ih (j33 + 1) (s33.1 + 1, (mX11_replace s33.2 22 12 s33.1 (s33.2.1 22 (nI j33).toNatClampNeg))) (by omega) (by rw [rj_br_l e] at K; exact K))
set_option maxHeartbeats 4000000 in
theorem lX0_takeOut_33u {g : rj_G} {ω : rj_W} (hω : rj_ok ω) (μ : rj_M) (a0 : Int32)     {F : rj_F} : ∀ (r j : Nat) (c0 : Int32) (c1 : rj_M), j + r = 12 → (rj_R g RX0 cX0_takeOut 5 none wsX0_takeOut [] (rj_rm 2 0) F 0 ω ((rj_br (bX0_takeOut_33 μ a0) r j (c0, c1)).2.2) [(0, .ref (ω.2.2 21)), (1, .int a0), (2, .int (fX0_barOf μ a0)), (3, .int ((rj_br (bX0_takeOut_33 μ a0) r j (c0, c1)).2.1)), (4, .int (nI (rj_br (bX0_takeOut_33 μ a0) r j (c0, c1)).1))] 85 []) → rj_R g RX0 cX0_takeOut 5 none wsX0_takeOut [] (rj_rm 2 0) F 0 ω c1 [(0, .ref (ω.2.2 21)), (1, .int a0), (2, .int (fX0_barOf μ a0)), (3, .int c0), (4, .int (nI j))] 33 [] := fun r j c0 c1 => lX0_takeOut_33 hω μ a0     r j (c0, c1)
def mX0_takeOut (μ : rj_M) (a0 : Int32) : rj_M := (if (fX0_firstOf μ (fX0_barOf μ a0)) = a0 then (mX11_replace (rj_pi ((rj_br (bX0_takeOut_33 μ a0) 12 0 (0, (mX11_replace μ 24 3 (fX0_barOf μ a0) (μ.1 21 5)))).2.2) 21 1 ((rj_br (bX0_takeOut_33 μ a0) 12 0 (0, (mX11_replace μ 24 3 (fX0_barOf μ a0) (μ.1 21 5)))).2.1)) 23 12 a0 (-1)) else (mX11_replace (rj_pi ((rj_br (bX0_takeOut_33 μ a0) 12 0 (0, μ)).2.2) 21 1 ((rj_br (bX0_takeOut_33 μ a0) 12 0 (0, μ)).2.1)) 23 12 a0 (-1)))
set_option maxHeartbeats 4000000 in
set_option maxRecDepth 100000 in
theorem sX0_takeOut {g : rj_G} {ω : rj_W} (hω : rj_ok ω) (μ : rj_M) (a0 : Int32)   : rj_Sp g yX0_takeOut wsX0_takeOut (rj_rm 2 0) [.ref (ω.2.2 21), .int a0] ω μ (rj_D (.inl none) ω (mX0_takeOut μ a0)) := by
  refine rj_of' (cc := cX0_takeOut) (nL := 5) (ret := none) (own := RX0) (l0 := [(0, .ref (ω.2.2 21)), (1, .int a0)]) rfl (by decide +kernel) rfl (Nat.le_of_ble_eq_true rfl) rfl ?_
  refine rj_aload_n 0 dX0_takeOut_0 rfl rfl ?_
  refine rj_iload_n 1 dX0_takeOut_1 rfl rfl ?_
  refine rj_cV (rest := []) (sX0_barOf (g := g) (ω := ω) hω μ a0  ) gX0_takeOut_X0_barOf (rj_lt hω (k := 21) rfl) (rj_sh hω ly_21) rfl rfl hVX0_barOf ⟨Nat.le_of_ble_eq_true rfl, Nat.le_of_ble_eq_true rfl⟩ dX0_takeOut_2 rfl rfl rfl (Nat.le_of_ble_eq_true rfl) rfl (Nat.le_of_ble_eq_true rfl) rfl ?_
  refine rj_istore_n (l' := [(2, .int (fX0_barOf μ a0)), (0, .ref (ω.2.2 21)), (1, .int a0)]) dX0_takeOut_5 rfl (rj_bl rfl) rfl ?_
  refine rj_aload_n 1 dX0_takeOut_6 rfl rfl ?_
  refine rj_iload_n 0 dX0_takeOut_7 rfl rfl ?_
  refine rj_cV (rest := []) (sX0_firstOf (g := g) (ω := ω) hω μ (fX0_barOf μ a0)  ) gX0_takeOut_X0_firstOf (rj_lt hω (k := 21) rfl) (rj_sh hω ly_21) rfl rfl hVX0_firstOf ⟨Nat.le_of_ble_eq_true rfl, Nat.le_of_ble_eq_true rfl⟩ dX0_takeOut_8 rfl rfl rfl (Nat.le_of_ble_eq_true rfl) rfl (Nat.le_of_ble_eq_true rfl) rfl ?_
  refine rj_iload_n 2 dX0_takeOut_11 rfl rfl ?_
  refine rj_icmp_ne dX0_takeOut_12 rfl rfl (fun h1 => ?_) (fun h1 => ?_)
  · refine rj_iconst (v := 0) dX0_takeOut_28 rfl (by decide) ?_
    refine rj_istore_n (l' := [(3, .int 0), (2, .int (fX0_barOf μ a0)), (0, .ref (ω.2.2 21)), (1, .int a0)]) dX0_takeOut_29 rfl (rj_bl rfl) rfl ?_
    refine rj_iconst (v := 0) dX0_takeOut_30 rfl (by decide) ?_
    refine rj_istore (l' := [(4, .int 0), (3, .int 0), (2, .int (fX0_barOf μ a0)), (0, .ref (ω.2.2 21)), (1, .int a0)]) dX0_takeOut_31 rfl (rj_bl rfl) rfl ?_
    refine rj_sub (l' := [(0, .ref (ω.2.2 21)), (1, .int a0), (2, .int (fX0_barOf μ a0)), (3, .int 0), (4, .int (nI 0))]) [3, 4, 2, 1, 0] rfl ?_
    refine lX0_takeOut_33u hω μ a0     12 0 0 μ rfl ?_
    refine rj_aload_n 0 dX0_takeOut_85 rfl rfl ?_
    refine rj_iload_n 3 dX0_takeOut_86 rfl rfl ?_
    refine rj_putI (C0 := RX0) (T := TX0) (N := 7) (j := 1) dX0_takeOut_87 rfl vX0_takeOut_0 rfl (rj_lt hω (k := 21) rfl) (rj_sh hω ly_21) (by decide) kX0_takeOut_15 tyX0 tyX0_ok nmX0 rfl rfl rfl rfl ?_
    refine rj_aload_n 0 dX0_takeOut_90 rfl rfl ?_
    refine rj_getR (C0 := RX0) (T := TX0) (N := 7) (j := 2) (r := 23) dX0_takeOut_91 rfl vX0_takeOut_0 rfl (rj_lt hω (k := 21) rfl) (rj_sh hω ly_21) (by decide) kX0_takeOut_19 rfl ?_
    refine rj_iload_n 1 dX0_takeOut_94 rfl rfl ?_
    refine rj_iconst (v := (-1)) dX0_takeOut_95 rfl (by decide) ?_
    refine rj_cSN (rest := []) (sX11_replace (g := g) (ω := ω) (rj_pi ((rj_br (bX0_takeOut_33 μ a0) 12 0 (0, μ)).2.2) 21 1 ((rj_br (bX0_takeOut_33 μ a0) 12 0 (0, μ)).2.1)) 23 12 a0 (-1) (rj_lt hω (k := 23) rfl) (rj_sh hω ly_23) (rj_bl rfl) ) ggX0_takeOut_X11_replace jX0_takeOut_49_i jX0_takeOut_49_s jX0_takeOut_49_n rfl hSX11_replace ⟨Nat.le_of_ble_eq_true rfl, Nat.le_of_ble_eq_true rfl⟩ dX0_takeOut_96 rfl rfl rfl (Nat.le_of_ble_eq_true rfl) rfl (Nat.le_of_ble_eq_true rfl) rfl ?_
    refine rj_pop dX0_takeOut_99 rfl rfl ?_
    exact rj_vret dX0_takeOut_100 rfl (Nat.le_of_ble_eq_true rfl) (Nat.le_of_ble_eq_true rfl) ⟨rfl, rfl, (by unfold mX0_takeOut; rw [if_neg h1]; try rfl)⟩
  · refine rj_aload_n 1 dX0_takeOut_15 rfl rfl ?_
    refine rj_getR (C0 := RX0) (T := TX0) (N := 7) (j := 3) (r := 24) dX0_takeOut_16 rfl vX0_takeOut_0 rfl (rj_lt hω (k := 21) rfl) (rj_sh hω ly_21) (by decide) kX0_takeOut_22 rfl ?_
    refine rj_iload_n 0 dX0_takeOut_19 rfl rfl ?_
    refine rj_aload_n 1 dX0_takeOut_20 rfl rfl ?_
    refine rj_getI (C0 := RX0) (T := TX0) (N := 7) (j := 5) dX0_takeOut_21 rfl vX0_takeOut_0 rfl (rj_lt hω (k := 21) rfl) (rj_sh hω ly_21) (by decide) kX0_takeOut_28 rfl ?_
    refine rj_cSN (rest := []) (sX11_replace (g := g) (ω := ω) μ 24 3 (fX0_barOf μ a0) (μ.1 21 5) (rj_lt hω (k := 24) rfl) (rj_sh hω ly_24) (rj_bl rfl) ) ggX0_takeOut_X11_replace jX0_takeOut_49_i jX0_takeOut_49_s jX0_takeOut_49_n rfl hSX11_replace ⟨Nat.le_of_ble_eq_true rfl, Nat.le_of_ble_eq_true rfl⟩ dX0_takeOut_24 rfl rfl rfl (Nat.le_of_ble_eq_true rfl) rfl (Nat.le_of_ble_eq_true rfl) rfl ?_
    refine rj_pop dX0_takeOut_27 rfl rfl ?_
    refine rj_iconst (v := 0) dX0_takeOut_28 rfl (by decide) ?_
    refine rj_istore_n (l' := [(3, .int 0), (2, .int (fX0_barOf μ a0)), (0, .ref (ω.2.2 21)), (1, .int a0)]) dX0_takeOut_29 rfl (rj_bl rfl) rfl ?_
    refine rj_iconst (v := 0) dX0_takeOut_30 rfl (by decide) ?_
    refine rj_istore (l' := [(4, .int 0), (3, .int 0), (2, .int (fX0_barOf μ a0)), (0, .ref (ω.2.2 21)), (1, .int a0)]) dX0_takeOut_31 rfl (rj_bl rfl) rfl ?_
    refine rj_sub (l' := [(0, .ref (ω.2.2 21)), (1, .int a0), (2, .int (fX0_barOf μ a0)), (3, .int 0), (4, .int (nI 0))]) [3, 4, 2, 1, 0] rfl ?_
    refine lX0_takeOut_33u hω μ a0     12 0 0 (mX11_replace μ 24 3 (fX0_barOf μ a0) (μ.1 21 5)) rfl ?_
    refine rj_aload_n 0 dX0_takeOut_85 rfl rfl ?_
    refine rj_iload_n 3 dX0_takeOut_86 rfl rfl ?_
    refine rj_putI (C0 := RX0) (T := TX0) (N := 7) (j := 1) dX0_takeOut_87 rfl vX0_takeOut_0 rfl (rj_lt hω (k := 21) rfl) (rj_sh hω ly_21) (by decide) kX0_takeOut_15 tyX0 tyX0_ok nmX0 rfl rfl rfl rfl ?_
    refine rj_aload_n 0 dX0_takeOut_90 rfl rfl ?_
    refine rj_getR (C0 := RX0) (T := TX0) (N := 7) (j := 2) (r := 23) dX0_takeOut_91 rfl vX0_takeOut_0 rfl (rj_lt hω (k := 21) rfl) (rj_sh hω ly_21) (by decide) kX0_takeOut_19 rfl ?_
    refine rj_iload_n 1 dX0_takeOut_94 rfl rfl ?_
    refine rj_iconst (v := (-1)) dX0_takeOut_95 rfl (by decide) ?_
    refine rj_cSN (rest := []) (sX11_replace (g := g) (ω := ω) (rj_pi ((rj_br (bX0_takeOut_33 μ a0) 12 0 (0, (mX11_replace μ 24 3 (fX0_barOf μ a0) (μ.1 21 5)))).2.2) 21 1 ((rj_br (bX0_takeOut_33 μ a0) 12 0 (0, (mX11_replace μ 24 3 (fX0_barOf μ a0) (μ.1 21 5)))).2.1)) 23 12 a0 (-1) (rj_lt hω (k := 23) rfl) (rj_sh hω ly_23) (rj_bl rfl) ) ggX0_takeOut_X11_replace jX0_takeOut_49_i jX0_takeOut_49_s jX0_takeOut_49_n rfl hSX11_replace ⟨Nat.le_of_ble_eq_true rfl, Nat.le_of_ble_eq_true rfl⟩ dX0_takeOut_96 rfl rfl rfl (Nat.le_of_ble_eq_true rfl) rfl (Nat.le_of_ble_eq_true rfl) rfl ?_
    refine rj_pop dX0_takeOut_99 rfl rfl ?_
    exact rj_vret dX0_takeOut_100 rfl (Nat.le_of_ble_eq_true rfl) (Nat.le_of_ble_eq_true rfl) ⟨rfl, rfl, (by unfold mX0_takeOut; rw [if_pos h1]; try rfl)⟩
theorem hSX0_passMinute : yX0_passMinute.cls ≠ "java/lang/invoke/MethodHandle" ∧ yX0_passMinute.cls ≠ "java/lang/invoke/VarHandle" ∧ (parseMethodDescriptor yX0_passMinute.desc).map (fun d => d.parameters.length) = some 0 := by decide +kernel
theorem hVX0_passMinute : yX0_passMinute.cls = RX0 ∧ yX0_passMinute.cls ≠ "java/lang/invoke/MethodHandle" ∧ yX0_passMinute.cls ≠ "java/lang/invoke/VarHandle" ∧ (parseMethodDescriptor yX0_passMinute.desc).map (fun d => d.parameters.length) = some 0 := by decide +kernel
theorem vX0_passMinute_0 : ∀ w ∈ u_ws RX0 TX0 7, w ∈ wsX0_passMinute := by decide +kernel
theorem kX0_passMinute_22 : Cond.fieldLink RX0 22 (TX0 3).1 (TX0 3).2.1 (TX0 3).2.2.1 ∈ wsX0_passMinute := by decide +kernel
theorem kX0_passMinute_31 : Cond.fieldLink RX0 31 (TX0 6).1 (TX0 6).2.1 (TX0 6).2.2.1 ∈ wsX0_passMinute := by decide +kernel
def bX0_passMinute_2 (μ : rj_M) (j2 : Nat) (s2 : rj_M) : rj_M := (if (fX0_firstOf s2 (nI j2)) = (-1) then s2 else (if 0 < ((rj_pi s2 24 (nI j2).toNatClampNeg ((s2.1 24 (nI j2).toNatClampNeg) - 1)).1 24 (nI j2).toNatClampNeg) then (rj_pi s2 24 (nI j2).toNatClampNeg ((s2.1 24 (nI j2).toNatClampNeg) - 1)) else (rj_pi (mX0_takeOut (rj_pi s2 24 (nI j2).toNatClampNeg ((s2.1 24 (nI j2).toNatClampNeg) - 1)) (fX0_firstOf s2 (nI j2))) 21 6 (((mX0_takeOut (rj_pi s2 24 (nI j2).toNatClampNeg ((s2.1 24 (nI j2).toNatClampNeg) - 1)) (fX0_firstOf s2 (nI j2))).1 21 6) + 1))))
set_option maxHeartbeats 4000000 in
set_option maxRecDepth 100000 in
theorem lX0_passMinute_2 {g : rj_G} {ω : rj_W} (hω : rj_ok ω) (μ : rj_M)     {F : rj_F} : ∀ (r j : Nat) (s : rj_M), j + r = 3 → (rj_R g RX0 cX0_passMinute 3 none wsX0_passMinute [] (rj_rm 3 0) F 0 ω (rj_fo (bX0_passMinute_2 μ) r j s) [(0, .ref (ω.2.2 21)), (1, .int (nI 3))] 58 []) → rj_R g RX0 cX0_passMinute 3 none wsX0_passMinute [] (rj_rm 3 0) F 0 ω s [(0, .ref (ω.2.2 21)), (1, .int (nI j))] 2 [] := by
  intro r
  induction r with
  | zero =>
    intro j s hj K
    have e0 : j = 3 := by omega
    have hge : 3 ≤ nI j := by
      rw [e0]
      exact Int32.le_refl _
    refine rj_iload_n 1 dX0_passMinute_2 rfl rfl ?_
    refine rj_iconst (v := 3) dX0_passMinute_3 rfl (by decide) ?_
    refine rj_icmp_ge dX0_passMinute_4 rfl rfl (fun h4 => ?_) (fun h4 => ?_)
    · have e1 : nI j = nI 3 := by rw [e0]
      rw [e1]
      exact K
    · exact absurd hge h4
  | succ r ih =>
    intro j2 s2 hj K
    have hl2 : j2 < 3 := by omega
    have hg2 : ¬ 3 ≤ nI j2 := nI_ge hl2 (rj_bl rfl)
    refine rj_iload_n 1 dX0_passMinute_2 rfl rfl ?_
    refine rj_iconst (v := 3) dX0_passMinute_3 rfl (by decide) ?_
    refine rj_icmp_ge dX0_passMinute_4 rfl rfl (fun h1 => ?_) (fun h1 => ?_)
    · exact absurd h1 hg2
    · refine rj_aload_n 0 dX0_passMinute_7 rfl rfl ?_
      refine rj_iload_n 1 dX0_passMinute_8 rfl rfl ?_
      refine rj_cV (rest := []) (sX0_firstOf (g := g) (ω := ω) hω s2 (nI j2)  ) gX0_passMinute_X0_firstOf (rj_lt hω (k := 21) rfl) (rj_sh hω ly_21) rfl rfl hVX0_firstOf ⟨Nat.le_of_ble_eq_true rfl, Nat.le_of_ble_eq_true rfl⟩ dX0_passMinute_9 rfl rfl rfl (Nat.le_of_ble_eq_true rfl) rfl (Nat.le_of_ble_eq_true rfl) rfl ?_
      refine rj_istore_n (l' := [(2, .int (fX0_firstOf s2 (nI j2))), (0, .ref (ω.2.2 21)), (1, .int (nI j2))]) dX0_passMinute_12 rfl (rj_bl rfl) rfl ?_
      refine rj_iload_n 0 dX0_passMinute_13 rfl rfl ?_
      refine rj_iconst (v := (-1)) dX0_passMinute_14 rfl (by decide) ?_
      refine rj_icmp_eq dX0_passMinute_15 rfl rfl (fun h2 => ?_) (fun h2 => ?_)
      · refine rj_iinc (v := nI (j2 + 1)) (l' := [(1, .int (nI (j2 + 1))), (2, .int (fX0_firstOf s2 (nI j2))), (0, .ref (ω.2.2 21))]) 2 dX0_passMinute_52 rfl rfl (nI_succ j2).symm (rj_bl rfl) rfl ?_
        refine rj_goto dX0_passMinute_55 rfl ?_
        have e : bX0_passMinute_2 μ j2 s2 = s2 := by unfold bX0_passMinute_2; rw [if_pos h2]; try rfl
        exact rj_sub (l' := [(0, .ref (ω.2.2 21)), (1, .int (nI (j2 + 1)))]) [2, 0] rfl (ih (j2 + 1) s2 (by omega) (by rw [rj_fo_s, e] at K; exact K))
      · refine rj_aload_n 1 dX0_passMinute_18 rfl rfl ?_
        refine rj_getR (C0 := RX0) (T := TX0) (N := 7) (j := 3) (r := 24) dX0_passMinute_19 rfl vX0_passMinute_0 rfl (rj_lt hω (k := 21) rfl) (rj_sh hω ly_21) (by decide) kX0_passMinute_22 rfl ?_
        refine rj_iload_n 2 dX0_passMinute_22 rfl rfl ?_
        refine rj_dup2 dX0_passMinute_23 rfl rfl rfl ?_
        refine rj_iald dX0_passMinute_24 rfl (rj_lt hω (k := 24) rfl) (rj_sh hω ly_24) (vp_in_nI hl2 (rj_bl rfl)) ?_
        refine rj_iconst (v := 1) dX0_passMinute_25 rfl (by decide) ?_
        refine rj_isub dX0_passMinute_26 rfl ?_
        refine rj_iast dX0_passMinute_27 rfl (rj_lt hω (k := 24) rfl) (rj_sh hω ly_24) (vp_in_nI hl2 (rj_bl rfl)) ?_
        refine rj_aload_n 1 dX0_passMinute_28 rfl rfl ?_
        refine rj_getR (C0 := RX0) (T := TX0) (N := 7) (j := 3) (r := 24) dX0_passMinute_29 rfl vX0_passMinute_0 rfl (rj_lt hω (k := 21) rfl) (rj_sh hω ly_21) (by decide) kX0_passMinute_22 rfl ?_
        refine rj_iload_n 2 dX0_passMinute_32 rfl rfl ?_
        refine rj_iald dX0_passMinute_33 rfl (rj_lt hω (k := 24) rfl) (rj_sh hω ly_24) (vp_in_nI hl2 (rj_bl rfl)) ?_
        refine rj_if_gt dX0_passMinute_34 rfl rfl (fun h3 => ?_) (fun h3 => ?_)
        · refine rj_iinc (v := nI (j2 + 1)) (l' := [(1, .int (nI (j2 + 1))), (2, .int (fX0_firstOf s2 (nI j2))), (0, .ref (ω.2.2 21))]) 2 dX0_passMinute_52 rfl rfl (nI_succ j2).symm (rj_bl rfl) rfl ?_
          refine rj_goto dX0_passMinute_55 rfl ?_
          have e : bX0_passMinute_2 μ j2 s2 = (rj_pi s2 24 (nI j2).toNatClampNeg ((s2.1 24 (nI j2).toNatClampNeg) - 1)) := by unfold bX0_passMinute_2; rw [if_neg h2]; rw [if_pos h3]; try rfl
          exact rj_sub (l' := [(0, .ref (ω.2.2 21)), (1, .int (nI (j2 + 1)))]) [2, 0] rfl (ih (j2 + 1) (rj_pi s2 24 (nI j2).toNatClampNeg ((s2.1 24 (nI j2).toNatClampNeg) - 1)) (by omega) (by rw [rj_fo_s, e] at K; exact K))
        · refine rj_aload_n 1 dX0_passMinute_37 rfl rfl ?_
          refine rj_iload_n 0 dX0_passMinute_38 rfl rfl ?_
          refine rj_cV (rest := []) (sX0_takeOut (g := g) (ω := ω) hω (rj_pi s2 24 (nI j2).toNatClampNeg ((s2.1 24 (nI j2).toNatClampNeg) - 1)) (fX0_firstOf s2 (nI j2))  ) gX0_passMinute_X0_takeOut (rj_lt hω (k := 21) rfl) (rj_sh hω ly_21) rfl rfl hVX0_takeOut ⟨Nat.le_of_ble_eq_true rfl, Nat.le_of_ble_eq_true rfl⟩ dX0_passMinute_39 rfl rfl rfl (Nat.le_of_ble_eq_true rfl) rfl (Nat.le_of_ble_eq_true rfl) rfl ?_
          refine rj_aload_n 1 dX0_passMinute_42 rfl rfl ?_
          refine rj_dup dX0_passMinute_43 rfl rfl ?_
          refine rj_getI (C0 := RX0) (T := TX0) (N := 7) (j := 6) dX0_passMinute_44 rfl vX0_passMinute_0 rfl (rj_lt hω (k := 21) rfl) (rj_sh hω ly_21) (by decide) kX0_passMinute_31 rfl ?_
          refine rj_iconst (v := 1) dX0_passMinute_47 rfl (by decide) ?_
          refine rj_iadd dX0_passMinute_48 rfl ?_
          refine rj_putI (C0 := RX0) (T := TX0) (N := 7) (j := 6) dX0_passMinute_49 rfl vX0_passMinute_0 rfl (rj_lt hω (k := 21) rfl) (rj_sh hω ly_21) (by decide) kX0_passMinute_31 tyX0 tyX0_ok nmX0 rfl rfl rfl rfl ?_
          refine rj_iinc (v := nI (j2 + 1)) (l' := [(1, .int (nI (j2 + 1))), (2, .int (fX0_firstOf s2 (nI j2))), (0, .ref (ω.2.2 21))]) 2 dX0_passMinute_52 rfl rfl (nI_succ j2).symm (rj_bl rfl) rfl ?_
          refine rj_goto dX0_passMinute_55 rfl ?_
          have e : bX0_passMinute_2 μ j2 s2 = (rj_pi (mX0_takeOut (rj_pi s2 24 (nI j2).toNatClampNeg ((s2.1 24 (nI j2).toNatClampNeg) - 1)) (fX0_firstOf s2 (nI j2))) 21 6 (((mX0_takeOut (rj_pi s2 24 (nI j2).toNatClampNeg ((s2.1 24 (nI j2).toNatClampNeg) - 1)) (fX0_firstOf s2 (nI j2))).1 21 6) + 1)) := by unfold bX0_passMinute_2; rw [if_neg h2]; rw [if_neg h3]; try rfl
          exact rj_sub (l' := [(0, .ref (ω.2.2 21)), (1, .int (nI (j2 + 1)))]) [2, 0] rfl (ih (j2 + 1) (rj_pi (mX0_takeOut (rj_pi s2 24 (nI j2).toNatClampNeg ((s2.1 24 (nI j2).toNatClampNeg) - 1)) (fX0_firstOf s2 (nI j2))) 21 6 (((mX0_takeOut (rj_pi s2 24 (nI j2).toNatClampNeg ((s2.1 24 (nI j2).toNatClampNeg) - 1)) (fX0_firstOf s2 (nI j2))).1 21 6) + 1)) (by omega) (by rw [rj_fo_s, e] at K; exact K))
def mX0_passMinute (μ : rj_M) : rj_M := (rj_fo (bX0_passMinute_2 μ) 3 0 μ)
set_option maxHeartbeats 4000000 in
set_option maxRecDepth 100000 in
theorem sX0_passMinute {g : rj_G} {ω : rj_W} (hω : rj_ok ω) (μ : rj_M)   : rj_Sp g yX0_passMinute wsX0_passMinute (rj_rm 3 0) [.ref (ω.2.2 21)] ω μ (rj_D (.inl none) ω (mX0_passMinute μ)) := by
  refine rj_of' (cc := cX0_passMinute) (nL := 3) (ret := none) (own := RX0) (l0 := [(0, .ref (ω.2.2 21))]) rfl (by decide +kernel) rfl (Nat.le_of_ble_eq_true rfl) rfl ?_
  refine rj_iconst (v := 0) dX0_passMinute_0 rfl (by decide) ?_
  refine rj_istore_n (l' := [(1, .int 0), (0, .ref (ω.2.2 21))]) dX0_passMinute_1 rfl (rj_bl rfl) rfl ?_
  refine rj_sub (l' := [(0, .ref (ω.2.2 21)), (1, .int (nI 0))]) [1, 0] rfl ?_
  refine lX0_passMinute_2 hω μ     3 0 μ rfl ?_
  exact rj_vret dX0_passMinute_58 rfl (Nat.le_of_ble_eq_true rfl) (Nat.le_of_ble_eq_true rfl) ⟨rfl, rfl, (by unfold mX0_passMinute; rfl)⟩
theorem hSX0_minutesTill : yX0_minutesTill.cls ≠ "java/lang/invoke/MethodHandle" ∧ yX0_minutesTill.cls ≠ "java/lang/invoke/VarHandle" ∧ (parseMethodDescriptor yX0_minutesTill.desc).map (fun d => d.parameters.length) = some 1 := by decide +kernel
theorem hVX0_minutesTill : yX0_minutesTill.cls = RX0 ∧ yX0_minutesTill.cls ≠ "java/lang/invoke/MethodHandle" ∧ yX0_minutesTill.cls ≠ "java/lang/invoke/VarHandle" ∧ (parseMethodDescriptor yX0_minutesTill.desc).map (fun d => d.parameters.length) = some 1 := by decide +kernel
theorem vX0_minutesTill_0 : ∀ w ∈ u_ws RX0 TX0 7, w ∈ wsX0_minutesTill := by decide +kernel
theorem kX0_minutesTill_15 : Cond.fieldLink RX0 15 (TX0 1).1 (TX0 1).2.1 (TX0 1).2.2.1 ∈ wsX0_minutesTill := by decide +kernel
theorem kX0_minutesTill_9 : Cond.fieldLink RX0 9 (TX0 0).1 (TX0 0).2.1 (TX0 0).2.2.1 ∈ wsX0_minutesTill := by decide +kernel
theorem kX0_minutesTill_22 : Cond.fieldLink RX0 22 (TX0 3).1 (TX0 3).2.1 (TX0 3).2.2.1 ∈ wsX0_minutesTill := by decide +kernel
theorem kX0_minutesTill_28 : Cond.fieldLink RX0 28 (TX0 5).1 (TX0 5).2.1 (TX0 5).2.2.1 ∈ wsX0_minutesTill := by decide +kernel
def bX0_minutesTill_22 (μ : rj_M) (a0 : Int32) (j22 : Nat) (s22 : Int32) : Int32 ⊕ (Nat × Int32) := (if (μ.1 21 1) ≤ nI j22 then .inr (j22, s22) else (if (μ.1 22 (nI j22).toNatClampNeg) = a0 then .inr (j22, s22) else (if (fX0_barOf μ (μ.1 22 (nI j22).toNatClampNeg)) = (fX0_barOf μ a0) then .inl (s22 + 1) else .inl s22)))
set_option maxHeartbeats 4000000 in
set_option maxRecDepth 100000 in
theorem lX0_minutesTill_22 {g : rj_G} {ω : rj_W} (hω : rj_ok ω) (μ : rj_M) (a0 : Int32)     {F : rj_F} : ∀ (r j : Nat) (s : Int32), j + r = 12 → (rj_R g RX0 cX0_minutesTill 5 (some .int) wsX0_minutesTill [] (rj_rm 1 0) F 0 ω μ [(0, .ref (ω.2.2 21)), (1, .int a0), (2, .int (fX0_barOf μ a0)), (3, .int ((rj_br (bX0_minutesTill_22 μ a0) r j s).2)), (4, .int (nI (rj_br (bX0_minutesTill_22 μ a0) r j s).1))] 73 []) → rj_R g RX0 cX0_minutesTill 5 (some .int) wsX0_minutesTill [] (rj_rm 1 0) F 0 ω μ [(0, .ref (ω.2.2 21)), (1, .int a0), (2, .int (fX0_barOf μ a0)), (3, .int s), (4, .int (nI j))] 22 [] := by
  intro r
  induction r with
  | zero =>
    intro j s hj K
    have e0 : j = 12 := by omega
    have hge : 12 ≤ nI j := by
      rw [e0]
      exact Int32.le_refl _
    refine rj_iload 4 dX0_minutesTill_22 rfl rfl ?_
    refine rj_bipush (v := 12) dX0_minutesTill_24 rfl (by decide) ?_
    refine rj_icmp_ge dX0_minutesTill_26 rfl rfl (fun h7 => ?_) (fun h7 => ?_)
    · rw [rj_br_0] at K
      exact K
    · exact absurd hge h7
  | succ r ih =>
    intro j22 s22 hj K
    have hl22 : j22 < 12 := by omega
    have hg22 : ¬ 12 ≤ nI j22 := nI_ge hl22 (rj_bl rfl)
    refine rj_iload 4 dX0_minutesTill_22 rfl rfl ?_
    refine rj_bipush (v := 12) dX0_minutesTill_24 rfl (by decide) ?_
    refine rj_icmp_ge dX0_minutesTill_26 rfl rfl (fun h3 => ?_) (fun h3 => ?_)
    · exact absurd h3 hg22
    · refine rj_iload 4 dX0_minutesTill_29 rfl rfl ?_
      refine rj_aload_n 0 dX0_minutesTill_31 rfl rfl ?_
      refine rj_getI (C0 := RX0) (T := TX0) (N := 7) (j := 1) dX0_minutesTill_32 rfl vX0_minutesTill_0 rfl (rj_lt hω (k := 21) rfl) (rj_sh hω ly_21) (by decide) kX0_minutesTill_15 rfl ?_
      refine rj_icmp_ge dX0_minutesTill_35 rfl rfl (fun h4 => ?_) (fun h4 => ?_)
      · have e : bX0_minutesTill_22 μ a0 j22 s22 = .inr (j22, s22) := by unfold bX0_minutesTill_22; rw [if_pos h4]; try rfl
        exact rj_sub (l' := [(0, .ref (ω.2.2 21)), (1, .int a0), (2, .int (fX0_barOf μ a0)), (3, .int s22), (4, .int (nI j22))]) [0, 1, 2, 3, 4] rfl (by rw [rj_br_r e] at K; exact K)
      · refine rj_aload_n 0 dX0_minutesTill_38 rfl rfl ?_
        refine rj_getR (C0 := RX0) (T := TX0) (N := 7) (j := 0) (r := 22) dX0_minutesTill_39 rfl vX0_minutesTill_0 rfl (rj_lt hω (k := 21) rfl) (rj_sh hω ly_21) (by decide) kX0_minutesTill_9 rfl ?_
        refine rj_iload 4 dX0_minutesTill_42 rfl rfl ?_
        refine rj_iald dX0_minutesTill_44 rfl (rj_lt hω (k := 22) rfl) (rj_sh hω ly_22) (vp_in_nI hl22 (rj_bl rfl)) ?_
        refine rj_iload_n 1 dX0_minutesTill_45 rfl rfl ?_
        refine rj_icmp_eq dX0_minutesTill_46 rfl rfl (fun h5 => ?_) (fun h5 => ?_)
        · have e : bX0_minutesTill_22 μ a0 j22 s22 = .inr (j22, s22) := by unfold bX0_minutesTill_22; rw [if_neg h4]; rw [if_pos h5]; try rfl
          exact rj_sub (l' := [(0, .ref (ω.2.2 21)), (1, .int a0), (2, .int (fX0_barOf μ a0)), (3, .int s22), (4, .int (nI j22))]) [0, 1, 2, 3, 4] rfl (by rw [rj_br_r e] at K; exact K)
        · refine rj_aload_n 0 dX0_minutesTill_49 rfl rfl ?_
          refine rj_aload_n 0 dX0_minutesTill_50 rfl rfl ?_
          refine rj_getR (C0 := RX0) (T := TX0) (N := 7) (j := 0) (r := 22) dX0_minutesTill_51 rfl vX0_minutesTill_0 rfl (rj_lt hω (k := 21) rfl) (rj_sh hω ly_21) (by decide) kX0_minutesTill_9 rfl ?_
          refine rj_iload 4 dX0_minutesTill_54 rfl rfl ?_
          refine rj_iald dX0_minutesTill_56 rfl (rj_lt hω (k := 22) rfl) (rj_sh hω ly_22) (vp_in_nI hl22 (rj_bl rfl)) ?_
          refine rj_cV (rest := []) (sX0_barOf (g := g) (ω := ω) hω μ (μ.1 22 (nI j22).toNatClampNeg)  ) gX0_minutesTill_X0_barOf (rj_lt hω (k := 21) rfl) (rj_sh hω ly_21) rfl rfl hVX0_barOf ⟨Nat.le_of_ble_eq_true rfl, Nat.le_of_ble_eq_true rfl⟩ dX0_minutesTill_57 rfl rfl rfl (Nat.le_of_ble_eq_true rfl) rfl (Nat.le_of_ble_eq_true rfl) rfl ?_
          refine rj_iload_n 2 dX0_minutesTill_60 rfl rfl ?_
          refine rj_icmp_ne dX0_minutesTill_61 rfl rfl (fun h6 => ?_) (fun h6 => ?_)
          · refine rj_iinc (v := nI (j22 + 1)) (l' := [(4, .int (nI (j22 + 1))), (0, .ref (ω.2.2 21)), (1, .int a0), (2, .int (fX0_barOf μ a0)), (3, .int s22)]) 4 dX0_minutesTill_67 rfl rfl (nI_succ j22).symm (rj_bl rfl) rfl ?_
            refine rj_goto dX0_minutesTill_70 rfl ?_
            have e : bX0_minutesTill_22 μ a0 j22 s22 = .inl s22 := by unfold bX0_minutesTill_22; rw [if_neg h4]; rw [if_neg h5]; rw [if_neg h6]; try rfl
            exact rj_sub (l' := [(0, .ref (ω.2.2 21)), (1, .int a0), (2, .int (fX0_barOf μ a0)), (3, .int s22), (4, .int (nI (j22 + 1)))]) [1, 2, 3, 4, 0] rfl (ih (j22 + 1) s22 (by omega) (by rw [rj_br_l e] at K; exact K))
          · refine rj_iinc (v := s22 + 1) (l' := [(3, .int (s22 + 1)), (0, .ref (ω.2.2 21)), (1, .int a0), (2, .int (fX0_barOf μ a0)), (4, .int (nI j22))]) 3 dX0_minutesTill_64 rfl rfl rfl (rj_bl rfl) rfl ?_
            refine rj_iinc (v := nI (j22 + 1)) (l' := [(4, .int (nI (j22 + 1))), (3, .int (s22 + 1)), (0, .ref (ω.2.2 21)), (1, .int a0), (2, .int (fX0_barOf μ a0))]) 4 dX0_minutesTill_67 rfl rfl (nI_succ j22).symm (rj_bl rfl) rfl ?_
            refine rj_goto dX0_minutesTill_70 rfl ?_
            have e : bX0_minutesTill_22 μ a0 j22 s22 = .inl (s22 + 1) := by unfold bX0_minutesTill_22; rw [if_neg h4]; rw [if_neg h5]; rw [if_pos h6]; try rfl
            exact rj_sub (l' := [(0, .ref (ω.2.2 21)), (1, .int a0), (2, .int (fX0_barOf μ a0)), (3, .int (s22 + 1)), (4, .int (nI (j22 + 1)))]) [2, 3, 4, 1, 0] rfl (ih (j22 + 1) (s22 + 1) (by omega) (by rw [rj_br_l e] at K; exact K))
def fX0_minutesTill (μ : rj_M) (a0 : Int32) : Int32 := (if (fX0_barOf μ a0) < 0 then (-1) else (if (fX0_barOf μ a0) < 3 then (if (rj_br (bX0_minutesTill_22 μ a0) 12 0 0).2 = 0 then 0 else ((μ.1 24 (fX0_barOf μ a0).toNatClampNeg) + ((((rj_br (bX0_minutesTill_22 μ a0) 12 0 0).2) - 1) * (μ.1 21 5)))) else (-1)))
set_option maxHeartbeats 4000000 in
set_option maxRecDepth 100000 in
theorem sX0_minutesTill {g : rj_G} {ω : rj_W} (hω : rj_ok ω) (μ : rj_M) (a0 : Int32)   : rj_Sp g yX0_minutesTill wsX0_minutesTill (rj_rm 1 0) [.ref (ω.2.2 21), .int a0] ω μ (rj_D (.inl (some (.int (fX0_minutesTill μ a0)))) ω μ) := by
  refine rj_of' (cc := cX0_minutesTill) (nL := 5) (ret := (some .int)) (own := RX0) (l0 := [(0, .ref (ω.2.2 21)), (1, .int a0)]) rfl (by decide +kernel) rfl (Nat.le_of_ble_eq_true rfl) rfl ?_
  refine rj_aload_n 0 dX0_minutesTill_0 rfl rfl ?_
  refine rj_iload_n 1 dX0_minutesTill_1 rfl rfl ?_
  refine rj_cV (rest := []) (sX0_barOf (g := g) (ω := ω) hω μ a0  ) gX0_minutesTill_X0_barOf (rj_lt hω (k := 21) rfl) (rj_sh hω ly_21) rfl rfl hVX0_barOf ⟨Nat.le_of_ble_eq_true rfl, Nat.le_of_ble_eq_true rfl⟩ dX0_minutesTill_2 rfl rfl rfl (Nat.le_of_ble_eq_true rfl) rfl (Nat.le_of_ble_eq_true rfl) rfl ?_
  refine rj_istore_n (l' := [(2, .int (fX0_barOf μ a0)), (0, .ref (ω.2.2 21)), (1, .int a0)]) dX0_minutesTill_5 rfl (rj_bl rfl) rfl ?_
  refine rj_iload_n 0 dX0_minutesTill_6 rfl rfl ?_
  refine rj_if_lt dX0_minutesTill_7 rfl rfl (fun h1 => ?_) (fun h1 => ?_)
  · refine rj_iconst (v := (-1)) dX0_minutesTill_15 rfl (by decide) ?_
    exact rj_iret dX0_minutesTill_16 rfl (Nat.le_of_ble_eq_true rfl) (Nat.le_of_ble_eq_true rfl) ⟨(by unfold fX0_minutesTill; rw [if_pos h1]; try rfl), rfl, rfl⟩
  · refine rj_iload_n 0 dX0_minutesTill_10 rfl rfl ?_
    refine rj_iconst (v := 3) dX0_minutesTill_11 rfl (by decide) ?_
    refine rj_icmp_lt dX0_minutesTill_12 rfl rfl (fun h2 => ?_) (fun h2 => ?_)
    · refine rj_iconst (v := 0) dX0_minutesTill_17 rfl (by decide) ?_
      refine rj_istore_n (l' := [(3, .int 0), (2, .int (fX0_barOf μ a0)), (0, .ref (ω.2.2 21)), (1, .int a0)]) dX0_minutesTill_18 rfl (rj_bl rfl) rfl ?_
      refine rj_iconst (v := 0) dX0_minutesTill_19 rfl (by decide) ?_
      refine rj_istore (l' := [(4, .int 0), (3, .int 0), (2, .int (fX0_barOf μ a0)), (0, .ref (ω.2.2 21)), (1, .int a0)]) dX0_minutesTill_20 rfl (rj_bl rfl) rfl ?_
      refine rj_sub (l' := [(0, .ref (ω.2.2 21)), (1, .int a0), (2, .int (fX0_barOf μ a0)), (3, .int 0), (4, .int (nI 0))]) [3, 4, 2, 1, 0] rfl ?_
      refine lX0_minutesTill_22 hω μ a0     12 0 0 rfl ?_
      refine rj_iload_n 3 dX0_minutesTill_73 rfl rfl ?_
      refine rj_if_ne dX0_minutesTill_74 rfl rfl (fun h8 => ?_) (fun h8 => ?_)
      · refine rj_aload_n 0 dX0_minutesTill_81 rfl rfl ?_
        refine rj_getR (C0 := RX0) (T := TX0) (N := 7) (j := 3) (r := 24) dX0_minutesTill_82 rfl vX0_minutesTill_0 rfl (rj_lt hω (k := 21) rfl) (rj_sh hω ly_21) (by decide) kX0_minutesTill_22 rfl ?_
        refine rj_iload_n 2 dX0_minutesTill_85 rfl rfl ?_
        refine rj_iald dX0_minutesTill_86 rfl (rj_lt hω (k := 24) rfl) (rj_sh hω ly_24) (rj_in h1 (Int32.not_le.mpr h2) rfl) ?_
        refine rj_iload_n 3 dX0_minutesTill_87 rfl rfl ?_
        refine rj_iconst (v := 1) dX0_minutesTill_88 rfl (by decide) ?_
        refine rj_isub dX0_minutesTill_89 rfl ?_
        refine rj_aload_n 0 dX0_minutesTill_90 rfl rfl ?_
        refine rj_getI (C0 := RX0) (T := TX0) (N := 7) (j := 5) dX0_minutesTill_91 rfl vX0_minutesTill_0 rfl (rj_lt hω (k := 21) rfl) (rj_sh hω ly_21) (by decide) kX0_minutesTill_28 rfl ?_
        refine rj_imul dX0_minutesTill_94 rfl ?_
        refine rj_iadd dX0_minutesTill_95 rfl ?_
        exact rj_iret dX0_minutesTill_96 rfl (Nat.le_of_ble_eq_true rfl) (Nat.le_of_ble_eq_true rfl) ⟨(by unfold fX0_minutesTill; rw [if_neg h1]; rw [if_pos h2]; rw [if_neg h8]; try rfl), rfl, rfl⟩
      · refine rj_iconst (v := 0) dX0_minutesTill_77 rfl (by decide) ?_
        refine rj_goto dX0_minutesTill_78 rfl ?_
        exact rj_iret dX0_minutesTill_96 rfl (Nat.le_of_ble_eq_true rfl) (Nat.le_of_ble_eq_true rfl) ⟨(by unfold fX0_minutesTill; rw [if_neg h1]; rw [if_pos h2]; rw [if_pos h8]; try rfl), rfl, rfl⟩
    · refine rj_iconst (v := (-1)) dX0_minutesTill_15 rfl (by decide) ?_
      exact rj_iret dX0_minutesTill_16 rfl (Nat.le_of_ble_eq_true rfl) (Nat.le_of_ble_eq_true rfl) ⟨(by unfold fX0_minutesTill; rw [if_neg h1]; rw [if_neg h2]; try rfl), rfl, rfl⟩
theorem hSX0_sumInLines : yX0_sumInLines.cls ≠ "java/lang/invoke/MethodHandle" ∧ yX0_sumInLines.cls ≠ "java/lang/invoke/VarHandle" ∧ (parseMethodDescriptor yX0_sumInLines.desc).map (fun d => d.parameters.length) = some 0 := by decide +kernel
theorem hVX0_sumInLines : yX0_sumInLines.cls = RX0 ∧ yX0_sumInLines.cls ≠ "java/lang/invoke/MethodHandle" ∧ yX0_sumInLines.cls ≠ "java/lang/invoke/VarHandle" ∧ (parseMethodDescriptor yX0_sumInLines.desc).map (fun d => d.parameters.length) = some 0 := by decide +kernel
theorem vX0_sumInLines_0 : ∀ w ∈ u_ws RX0 TX0 7, w ∈ wsX0_sumInLines := by decide +kernel
theorem kX0_sumInLines_19 : Cond.fieldLink RX0 19 (TX0 2).1 (TX0 2).2.1 (TX0 2).2.2.1 ∈ wsX0_sumInLines := by decide +kernel
def bX0_sumInLines_4 (μ : rj_M) (j4 : Nat) (s4 : Int32) : Int32 := (if (μ.1 23 (nI j4).toNatClampNeg) = (-1) then s4 else (s4 + (fX0_minutesTill μ (nI j4))))
set_option maxHeartbeats 4000000 in
set_option maxRecDepth 100000 in
theorem lX0_sumInLines_4 {g : rj_G} {ω : rj_W} (hω : rj_ok ω) (μ : rj_M)     {F : rj_F} : ∀ (r j : Nat) (s : Int32), j + r = 12 → (rj_R g RX0 cX0_sumInLines 3 (some .int) wsX0_sumInLines [] (rj_rm 2 0) F 0 ω μ [(0, .ref (ω.2.2 21)), (1, .int (rj_fo (bX0_sumInLines_4 μ) r j s)), (2, .int (nI 12))] 34 []) → rj_R g RX0 cX0_sumInLines 3 (some .int) wsX0_sumInLines [] (rj_rm 2 0) F 0 ω μ [(0, .ref (ω.2.2 21)), (1, .int s), (2, .int (nI j))] 4 [] := by
  intro r
  induction r with
  | zero =>
    intro j s hj K
    have e0 : j = 12 := by omega
    have hge : 12 ≤ nI j := by
      rw [e0]
      exact Int32.le_refl _
    refine rj_iload_n 2 dX0_sumInLines_4 rfl rfl ?_
    refine rj_bipush (v := 12) dX0_sumInLines_5 rfl (by decide) ?_
    refine rj_icmp_ge dX0_sumInLines_7 rfl rfl (fun h3 => ?_) (fun h3 => ?_)
    · have e1 : nI j = nI 12 := by rw [e0]
      rw [e1]
      exact K
    · exact absurd hge h3
  | succ r ih =>
    intro j4 s4 hj K
    have hl4 : j4 < 12 := by omega
    have hg4 : ¬ 12 ≤ nI j4 := nI_ge hl4 (rj_bl rfl)
    refine rj_iload_n 2 dX0_sumInLines_4 rfl rfl ?_
    refine rj_bipush (v := 12) dX0_sumInLines_5 rfl (by decide) ?_
    refine rj_icmp_ge dX0_sumInLines_7 rfl rfl (fun h1 => ?_) (fun h1 => ?_)
    · exact absurd h1 hg4
    · refine rj_aload_n 0 dX0_sumInLines_10 rfl rfl ?_
      refine rj_getR (C0 := RX0) (T := TX0) (N := 7) (j := 2) (r := 23) dX0_sumInLines_11 rfl vX0_sumInLines_0 rfl (rj_lt hω (k := 21) rfl) (rj_sh hω ly_21) (by decide) kX0_sumInLines_19 rfl ?_
      refine rj_iload_n 2 dX0_sumInLines_14 rfl rfl ?_
      refine rj_iald dX0_sumInLines_15 rfl (rj_lt hω (k := 23) rfl) (rj_sh hω ly_23) (vp_in_nI hl4 (rj_bl rfl)) ?_
      refine rj_iconst (v := (-1)) dX0_sumInLines_16 rfl (by decide) ?_
      refine rj_icmp_eq dX0_sumInLines_17 rfl rfl (fun h2 => ?_) (fun h2 => ?_)
      · refine rj_iinc (v := nI (j4 + 1)) (l' := [(2, .int (nI (j4 + 1))), (0, .ref (ω.2.2 21)), (1, .int s4)]) 2 dX0_sumInLines_28 rfl rfl (nI_succ j4).symm (rj_bl rfl) rfl ?_
        refine rj_goto dX0_sumInLines_31 rfl ?_
        have e : bX0_sumInLines_4 μ j4 s4 = s4 := by unfold bX0_sumInLines_4; rw [if_pos h2]; try rfl
        exact rj_sub (l' := [(0, .ref (ω.2.2 21)), (1, .int s4), (2, .int (nI (j4 + 1)))]) [1, 2, 0] rfl (ih (j4 + 1) s4 (by omega) (by rw [rj_fo_s, e] at K; exact K))
      · refine rj_iload_n 1 dX0_sumInLines_20 rfl rfl ?_
        refine rj_aload_n 0 dX0_sumInLines_21 rfl rfl ?_
        refine rj_iload_n 2 dX0_sumInLines_22 rfl rfl ?_
        refine rj_cV (rest := [.int s4]) (sX0_minutesTill (g := g) (ω := ω) hω μ (nI j4)  ) gX0_sumInLines_X0_minutesTill (rj_lt hω (k := 21) rfl) (rj_sh hω ly_21) rfl rfl hVX0_minutesTill ⟨Nat.le_of_ble_eq_true rfl, Nat.le_of_ble_eq_true rfl⟩ dX0_sumInLines_23 rfl rfl rfl (Nat.le_of_ble_eq_true rfl) rfl (Nat.le_of_ble_eq_true rfl) rfl ?_
        refine rj_iadd dX0_sumInLines_26 rfl ?_
        refine rj_istore_n (l' := [(1, .int (s4 + (fX0_minutesTill μ (nI j4)))), (0, .ref (ω.2.2 21)), (2, .int (nI j4))]) dX0_sumInLines_27 rfl (rj_bl rfl) rfl ?_
        refine rj_iinc (v := nI (j4 + 1)) (l' := [(2, .int (nI (j4 + 1))), (1, .int (s4 + (fX0_minutesTill μ (nI j4)))), (0, .ref (ω.2.2 21))]) 2 dX0_sumInLines_28 rfl rfl (nI_succ j4).symm (rj_bl rfl) rfl ?_
        refine rj_goto dX0_sumInLines_31 rfl ?_
        have e : bX0_sumInLines_4 μ j4 s4 = (s4 + (fX0_minutesTill μ (nI j4))) := by unfold bX0_sumInLines_4; rw [if_neg h2]; try rfl
        exact rj_sub (l' := [(0, .ref (ω.2.2 21)), (1, .int (s4 + (fX0_minutesTill μ (nI j4)))), (2, .int (nI (j4 + 1)))]) [2, 1, 0] rfl (ih (j4 + 1) (s4 + (fX0_minutesTill μ (nI j4))) (by omega) (by rw [rj_fo_s, e] at K; exact K))
def fX0_sumInLines (μ : rj_M) : Int32 := (rj_fo (bX0_sumInLines_4 μ) 12 0 0)
set_option maxHeartbeats 4000000 in
set_option maxRecDepth 100000 in
theorem sX0_sumInLines {g : rj_G} {ω : rj_W} (hω : rj_ok ω) (μ : rj_M)   : rj_Sp g yX0_sumInLines wsX0_sumInLines (rj_rm 2 0) [.ref (ω.2.2 21)] ω μ (rj_D (.inl (some (.int (fX0_sumInLines μ)))) ω μ) := by
  refine rj_of' (cc := cX0_sumInLines) (nL := 3) (ret := (some .int)) (own := RX0) (l0 := [(0, .ref (ω.2.2 21))]) rfl (by decide +kernel) rfl (Nat.le_of_ble_eq_true rfl) rfl ?_
  refine rj_iconst (v := 0) dX0_sumInLines_0 rfl (by decide) ?_
  refine rj_istore_n (l' := [(1, .int 0), (0, .ref (ω.2.2 21))]) dX0_sumInLines_1 rfl (rj_bl rfl) rfl ?_
  refine rj_iconst (v := 0) dX0_sumInLines_2 rfl (by decide) ?_
  refine rj_istore_n (l' := [(2, .int 0), (1, .int 0), (0, .ref (ω.2.2 21))]) dX0_sumInLines_3 rfl (rj_bl rfl) rfl ?_
  refine rj_sub (l' := [(0, .ref (ω.2.2 21)), (1, .int 0), (2, .int (nI 0))]) [2, 1, 0] rfl ?_
  refine lX0_sumInLines_4 hω μ     12 0 0 rfl ?_
  refine rj_iload_n 1 dX0_sumInLines_34 rfl rfl ?_
  exact rj_iret dX0_sumInLines_35 rfl (Nat.le_of_ble_eq_true rfl) (Nat.le_of_ble_eq_true rfl) ⟨(by unfold fX0_sumInLines; rfl), rfl, rfl⟩
theorem hSX0_freeFirst : yX0_freeFirst.cls ≠ "java/lang/invoke/MethodHandle" ∧ yX0_freeFirst.cls ≠ "java/lang/invoke/VarHandle" ∧ (parseMethodDescriptor yX0_freeFirst.desc).map (fun d => d.parameters.length) = some 0 := by decide +kernel
theorem hVX0_freeFirst : yX0_freeFirst.cls = RX0 ∧ yX0_freeFirst.cls ≠ "java/lang/invoke/MethodHandle" ∧ yX0_freeFirst.cls ≠ "java/lang/invoke/VarHandle" ∧ (parseMethodDescriptor yX0_freeFirst.desc).map (fun d => d.parameters.length) = some 0 := by decide +kernel
theorem vX0_freeFirst_0 : ∀ w ∈ u_ws RX0 TX0 7, w ∈ wsX0_freeFirst := by decide +kernel
theorem kX0_freeFirst_25 : Cond.fieldLink RX0 25 (TX0 4).1 (TX0 4).2.1 (TX0 4).2.2.1 ∈ wsX0_freeFirst := by decide +kernel
def bX0_freeFirst_4 (μ : rj_M) (j4 : Nat) (s4 : Int32) : Int32 := (if (μ.1 25 s4.toNatClampNeg) ≤ (μ.1 25 (nI j4).toNatClampNeg) then s4 else (nI j4))
set_option maxHeartbeats 4000000 in
set_option maxRecDepth 100000 in
theorem lX0_freeFirst_4 {g : rj_G} {ω : rj_W} (hω : rj_ok ω) (μ : rj_M)     {F : rj_F} : ∀ (r j : Nat) (s : Int32), j + r = 3 → vp_in s 3 → (vp_in (rj_fo (bX0_freeFirst_4 μ) r j s) 3 → rj_R g RX0 cX0_freeFirst 3 (some .int) wsX0_freeFirst [] (rj_rm 0 0) F 0 ω μ [(0, .ref (ω.2.2 21)), (1, .int (rj_fo (bX0_freeFirst_4 μ) r j s)), (2, .int (nI 3))] 32 []) → rj_R g RX0 cX0_freeFirst 3 (some .int) wsX0_freeFirst [] (rj_rm 0 0) F 0 ω μ [(0, .ref (ω.2.2 21)), (1, .int s), (2, .int (nI j))] 4 [] := by
  intro r
  induction r with
  | zero =>
    intro j s hj hv K
    have e0 : j = 3 := by omega
    have hge : 3 ≤ nI j := by
      rw [e0]
      exact Int32.le_refl _
    refine rj_iload_n 2 dX0_freeFirst_4 rfl rfl ?_
    refine rj_iconst (v := 3) dX0_freeFirst_5 rfl (by decide) ?_
    refine rj_icmp_ge dX0_freeFirst_6 rfl rfl (fun h3 => ?_) (fun h3 => ?_)
    · have e1 : nI j = nI 3 := by rw [e0]
      rw [e1]
      exact K hv
    · exact absurd hge h3
  | succ r ih =>
    intro j4 s4 hj hv K
    have hl4 : j4 < 3 := by omega
    have hg4 : ¬ 3 ≤ nI j4 := nI_ge hl4 (rj_bl rfl)
    refine rj_iload_n 2 dX0_freeFirst_4 rfl rfl ?_
    refine rj_iconst (v := 3) dX0_freeFirst_5 rfl (by decide) ?_
    refine rj_icmp_ge dX0_freeFirst_6 rfl rfl (fun h1 => ?_) (fun h1 => ?_)
    · exact absurd h1 hg4
    · refine rj_aload_n 0 dX0_freeFirst_9 rfl rfl ?_
      refine rj_getR (C0 := RX0) (T := TX0) (N := 7) (j := 4) (r := 25) dX0_freeFirst_10 rfl vX0_freeFirst_0 rfl (rj_lt hω (k := 21) rfl) (rj_sh hω ly_21) (by decide) kX0_freeFirst_25 rfl ?_
      refine rj_iload_n 2 dX0_freeFirst_13 rfl rfl ?_
      refine rj_iald dX0_freeFirst_14 rfl (rj_lt hω (k := 25) rfl) (rj_sh hω ly_25) (vp_in_nI hl4 (rj_bl rfl)) ?_
      refine rj_aload_n 0 dX0_freeFirst_15 rfl rfl ?_
      refine rj_getR (C0 := RX0) (T := TX0) (N := 7) (j := 4) (r := 25) dX0_freeFirst_16 rfl vX0_freeFirst_0 rfl (rj_lt hω (k := 21) rfl) (rj_sh hω ly_21) (by decide) kX0_freeFirst_25 rfl ?_
      refine rj_iload_n 1 dX0_freeFirst_19 rfl rfl ?_
      refine rj_iald dX0_freeFirst_20 rfl (rj_lt hω (k := 25) rfl) (rj_sh hω ly_25) hv ?_
      refine rj_icmp_ge dX0_freeFirst_21 rfl rfl (fun h2 => ?_) (fun h2 => ?_)
      · refine rj_iinc (v := nI (j4 + 1)) (l' := [(2, .int (nI (j4 + 1))), (0, .ref (ω.2.2 21)), (1, .int s4)]) 2 dX0_freeFirst_26 rfl rfl (nI_succ j4).symm (rj_bl rfl) rfl ?_
        refine rj_goto dX0_freeFirst_29 rfl ?_
        have e : bX0_freeFirst_4 μ j4 s4 = s4 := by unfold bX0_freeFirst_4; rw [if_pos h2]; try rfl
        exact rj_sub (l' := [(0, .ref (ω.2.2 21)), (1, .int s4), (2, .int (nI (j4 + 1)))]) [1, 2, 0] rfl (ih (j4 + 1) s4 (by omega) (by first | exact hv | exact vp_in_nI hl4 (rj_bl rfl)) (by rw [rj_fo_s, e] at K; exact K))
      · refine rj_iload_n 2 dX0_freeFirst_24 rfl rfl ?_
        refine rj_istore_n (l' := [(1, .int (nI j4)), (0, .ref (ω.2.2 21)), (2, .int (nI j4))]) dX0_freeFirst_25 rfl (rj_bl rfl) rfl ?_
        refine rj_iinc (v := nI (j4 + 1)) (l' := [(2, .int (nI (j4 + 1))), (1, .int (nI j4)), (0, .ref (ω.2.2 21))]) 2 dX0_freeFirst_26 rfl rfl (nI_succ j4).symm (rj_bl rfl) rfl ?_
        refine rj_goto dX0_freeFirst_29 rfl ?_
        have e : bX0_freeFirst_4 μ j4 s4 = (nI j4) := by unfold bX0_freeFirst_4; rw [if_neg h2]; try rfl
        exact rj_sub (l' := [(0, .ref (ω.2.2 21)), (1, .int (nI j4)), (2, .int (nI (j4 + 1)))]) [2, 1, 0] rfl (ih (j4 + 1) (nI j4) (by omega) (by first | exact hv | exact vp_in_nI hl4 (rj_bl rfl)) (by rw [rj_fo_s, e] at K; exact K))
def fX0_freeFirst (μ : rj_M) : Int32 := (rj_fo (bX0_freeFirst_4 μ) 2 1 0)
set_option maxHeartbeats 4000000 in
set_option maxRecDepth 100000 in
theorem sX0_freeFirst {g : rj_G} {ω : rj_W} (hω : rj_ok ω) (μ : rj_M)   : rj_Sp g yX0_freeFirst wsX0_freeFirst (rj_rm 0 0) [.ref (ω.2.2 21)] ω μ (rj_D (.inl (some (.int (fX0_freeFirst μ)))) ω μ) := by
  refine rj_of' (cc := cX0_freeFirst) (nL := 3) (ret := (some .int)) (own := RX0) (l0 := [(0, .ref (ω.2.2 21))]) rfl (by decide +kernel) rfl (Nat.le_of_ble_eq_true rfl) rfl ?_
  refine rj_iconst (v := 0) dX0_freeFirst_0 rfl (by decide) ?_
  refine rj_istore_n (l' := [(1, .int 0), (0, .ref (ω.2.2 21))]) dX0_freeFirst_1 rfl (rj_bl rfl) rfl ?_
  refine rj_iconst (v := 1) dX0_freeFirst_2 rfl (by decide) ?_
  refine rj_istore_n (l' := [(2, .int 1), (1, .int 0), (0, .ref (ω.2.2 21))]) dX0_freeFirst_3 rfl (rj_bl rfl) rfl ?_
  refine rj_sub (l' := [(0, .ref (ω.2.2 21)), (1, .int 0), (2, .int (nI 1))]) [2, 1, 0] rfl ?_
  refine lX0_freeFirst_4 hω μ     2 1 0 rfl (vp_in_nI (n := 0) (rj_bl rfl) (rj_bl rfl)) (fun hv4 => ?_)
  refine rj_iload_n 1 dX0_freeFirst_32 rfl rfl ?_
  exact rj_iret dX0_freeFirst_33 rfl (Nat.le_of_ble_eq_true rfl) (Nat.le_of_ble_eq_true rfl) ⟨(by unfold fX0_freeFirst; rfl), rfl, rfl⟩
theorem rj_ffin {μ : rj_M} : vp_in (fX0_freeFirst μ) 3 := by
  have key : ∀ (r j : Nat) (s : Int32), j + r = 3 → vp_in s 3 → vp_in (rj_fo (bX0_freeFirst_4 μ) r j s) 3 := by
    intro r
    induction r with
    | zero => intro j s _ h; exact h
    | succ r ih =>
      intro j s hj h
      rw [rj_fo_s]
      refine ih (j + 1) _ (by omega) ?_
      unfold bX0_freeFirst_4
      have hb : vp_in (nI j) 3 := vp_in_nI (by omega) (rj_bl rfl)
      split
      · first | exact h | exact hb
      · first | exact h | exact hb
  unfold fX0_freeFirst
  exact key _ _ _ rfl (vp_in_nI (n := 0) (rj_bl rfl) (rj_bl rfl))
theorem hSX0_sumInOneLine : yX0_sumInOneLine.cls ≠ "java/lang/invoke/MethodHandle" ∧ yX0_sumInOneLine.cls ≠ "java/lang/invoke/VarHandle" ∧ (parseMethodDescriptor yX0_sumInOneLine.desc).map (fun d => d.parameters.length) = some 0 := by decide +kernel
theorem hVX0_sumInOneLine : yX0_sumInOneLine.cls = RX0 ∧ yX0_sumInOneLine.cls ≠ "java/lang/invoke/MethodHandle" ∧ yX0_sumInOneLine.cls ≠ "java/lang/invoke/VarHandle" ∧ (parseMethodDescriptor yX0_sumInOneLine.desc).map (fun d => d.parameters.length) = some 0 := by decide +kernel
theorem vX0_sumInOneLine_0 : ∀ w ∈ u_ws RX0 TX0 7, w ∈ wsX0_sumInOneLine := by decide +kernel
theorem kX0_sumInOneLine_25 : Cond.fieldLink RX0 25 (TX0 4).1 (TX0 4).2.1 (TX0 4).2.2.1 ∈ wsX0_sumInOneLine := by decide +kernel
theorem kX0_sumInOneLine_22 : Cond.fieldLink RX0 22 (TX0 3).1 (TX0 3).2.1 (TX0 3).2.2.1 ∈ wsX0_sumInOneLine := by decide +kernel
theorem kX0_sumInOneLine_15 : Cond.fieldLink RX0 15 (TX0 1).1 (TX0 1).2.1 (TX0 1).2.2.1 ∈ wsX0_sumInOneLine := by decide +kernel
theorem kX0_sumInOneLine_9 : Cond.fieldLink RX0 9 (TX0 0).1 (TX0 0).2.1 (TX0 0).2.2.1 ∈ wsX0_sumInOneLine := by decide +kernel
theorem kX0_sumInOneLine_28 : Cond.fieldLink RX0 28 (TX0 5).1 (TX0 5).2.1 (TX0 5).2.2.1 ∈ wsX0_sumInOneLine := by decide +kernel
def bX0_sumInOneLine_2 (μ : rj_M) (j2 : Nat) (s2 : rj_M) : rj_M := (if (fX0_firstOf s2 (nI j2)) = (-1) then (rj_pi s2 25 (nI j2).toNatClampNeg 0) else (rj_pi s2 25 (nI j2).toNatClampNeg (s2.1 24 (nI j2).toNatClampNeg)))
set_option maxHeartbeats 4000000 in
set_option maxRecDepth 100000 in
theorem lX0_sumInOneLine_2 {g : rj_G} {ω : rj_W} (hω : rj_ok ω) (μ : rj_M)     {F : rj_F} : ∀ (r j : Nat) (s : rj_M), j + r = 3 → (rj_R g RX0 cX0_sumInOneLine 4 (some .int) wsX0_sumInOneLine [] (rj_rm 2 0) F 0 ω (rj_fo (bX0_sumInOneLine_2 μ) r j s) [(0, .ref (ω.2.2 21)), (1, .int (nI 3))] 38 []) → rj_R g RX0 cX0_sumInOneLine 4 (some .int) wsX0_sumInOneLine [] (rj_rm 2 0) F 0 ω s [(0, .ref (ω.2.2 21)), (1, .int (nI j))] 2 [] := by
  intro r
  induction r with
  | zero =>
    intro j s hj K
    have e0 : j = 3 := by omega
    have hge : 3 ≤ nI j := by
      rw [e0]
      exact Int32.le_refl _
    refine rj_iload_n 1 dX0_sumInOneLine_2 rfl rfl ?_
    refine rj_iconst (v := 3) dX0_sumInOneLine_3 rfl (by decide) ?_
    refine rj_icmp_ge dX0_sumInOneLine_4 rfl rfl (fun h3 => ?_) (fun h3 => ?_)
    · have e1 : nI j = nI 3 := by rw [e0]
      rw [e1]
      exact K
    · exact absurd hge h3
  | succ r ih =>
    intro j2 s2 hj K
    have hl2 : j2 < 3 := by omega
    have hg2 : ¬ 3 ≤ nI j2 := nI_ge hl2 (rj_bl rfl)
    refine rj_iload_n 1 dX0_sumInOneLine_2 rfl rfl ?_
    refine rj_iconst (v := 3) dX0_sumInOneLine_3 rfl (by decide) ?_
    refine rj_icmp_ge dX0_sumInOneLine_4 rfl rfl (fun h1 => ?_) (fun h1 => ?_)
    · exact absurd h1 hg2
    · refine rj_aload_n 0 dX0_sumInOneLine_7 rfl rfl ?_
      refine rj_getR (C0 := RX0) (T := TX0) (N := 7) (j := 4) (r := 25) dX0_sumInOneLine_8 rfl vX0_sumInOneLine_0 rfl (rj_lt hω (k := 21) rfl) (rj_sh hω ly_21) (by decide) kX0_sumInOneLine_25 rfl ?_
      refine rj_iload_n 1 dX0_sumInOneLine_11 rfl rfl ?_
      refine rj_aload_n 0 dX0_sumInOneLine_12 rfl rfl ?_
      refine rj_iload_n 1 dX0_sumInOneLine_13 rfl rfl ?_
      refine rj_cV (rest := [.int (nI j2), .ref (ω.2.2 25)]) (sX0_firstOf (g := g) (ω := ω) hω s2 (nI j2)  ) gX0_sumInOneLine_X0_firstOf (rj_lt hω (k := 21) rfl) (rj_sh hω ly_21) rfl rfl hVX0_firstOf ⟨Nat.le_of_ble_eq_true rfl, Nat.le_of_ble_eq_true rfl⟩ dX0_sumInOneLine_14 rfl rfl rfl (Nat.le_of_ble_eq_true rfl) rfl (Nat.le_of_ble_eq_true rfl) rfl ?_
      refine rj_iconst (v := (-1)) dX0_sumInOneLine_17 rfl (by decide) ?_
      refine rj_icmp_ne dX0_sumInOneLine_18 rfl rfl (fun h2 => ?_) (fun h2 => ?_)
      · refine rj_aload_n 0 dX0_sumInOneLine_25 rfl rfl ?_
        refine rj_getR (C0 := RX0) (T := TX0) (N := 7) (j := 3) (r := 24) dX0_sumInOneLine_26 rfl vX0_sumInOneLine_0 rfl (rj_lt hω (k := 21) rfl) (rj_sh hω ly_21) (by decide) kX0_sumInOneLine_22 rfl ?_
        refine rj_iload_n 1 dX0_sumInOneLine_29 rfl rfl ?_
        refine rj_iald dX0_sumInOneLine_30 rfl (rj_lt hω (k := 24) rfl) (rj_sh hω ly_24) (vp_in_nI hl2 (rj_bl rfl)) ?_
        refine rj_iast dX0_sumInOneLine_31 rfl (rj_lt hω (k := 25) rfl) (rj_sh hω ly_25) (vp_in_nI hl2 (rj_bl rfl)) ?_
        refine rj_iinc (v := nI (j2 + 1)) (l' := [(1, .int (nI (j2 + 1))), (0, .ref (ω.2.2 21))]) 1 dX0_sumInOneLine_32 rfl rfl (nI_succ j2).symm (rj_bl rfl) rfl ?_
        refine rj_goto dX0_sumInOneLine_35 rfl ?_
        have e : bX0_sumInOneLine_2 μ j2 s2 = (rj_pi s2 25 (nI j2).toNatClampNeg (s2.1 24 (nI j2).toNatClampNeg)) := by unfold bX0_sumInOneLine_2; rw [if_neg h2]; try rfl
        exact rj_sub (l' := [(0, .ref (ω.2.2 21)), (1, .int (nI (j2 + 1)))]) [1, 0] rfl (ih (j2 + 1) (rj_pi s2 25 (nI j2).toNatClampNeg (s2.1 24 (nI j2).toNatClampNeg)) (by omega) (by rw [rj_fo_s, e] at K; exact K))
      · refine rj_iconst (v := 0) dX0_sumInOneLine_21 rfl (by decide) ?_
        refine rj_goto dX0_sumInOneLine_22 rfl ?_
        refine rj_iast dX0_sumInOneLine_31 rfl (rj_lt hω (k := 25) rfl) (rj_sh hω ly_25) (vp_in_nI hl2 (rj_bl rfl)) ?_
        refine rj_iinc (v := nI (j2 + 1)) (l' := [(1, .int (nI (j2 + 1))), (0, .ref (ω.2.2 21))]) 1 dX0_sumInOneLine_32 rfl rfl (nI_succ j2).symm (rj_bl rfl) rfl ?_
        refine rj_goto dX0_sumInOneLine_35 rfl ?_
        have e : bX0_sumInOneLine_2 μ j2 s2 = (rj_pi s2 25 (nI j2).toNatClampNeg 0) := by unfold bX0_sumInOneLine_2; rw [if_pos h2]; try rfl
        exact rj_sub (l' := [(0, .ref (ω.2.2 21)), (1, .int (nI (j2 + 1)))]) [1, 0] rfl (ih (j2 + 1) (rj_pi s2 25 (nI j2).toNatClampNeg 0) (by omega) (by rw [rj_fo_s, e] at K; exact K))
def bX0_sumInOneLine_42 (μ : rj_M) (j42 : Nat) (s42 : Int32 × rj_M) : (Int32 × rj_M) ⊕ (Nat × (Int32 × rj_M)) := (if (s42.2.1 21 1) ≤ nI j42 then .inr (j42, (s42.1, s42.2)) else (if (fX0_firstOf s42.2 (fX0_barOf s42.2 (s42.2.1 22 (nI j42).toNatClampNeg))) = (s42.2.1 22 (nI j42).toNatClampNeg) then .inl (s42.1, s42.2) else .inl ((s42.1 + (s42.2.1 25 (fX0_freeFirst s42.2).toNatClampNeg)), (rj_pi s42.2 25 (fX0_freeFirst s42.2).toNatClampNeg ((s42.2.1 25 (fX0_freeFirst s42.2).toNatClampNeg) + (s42.2.1 21 5))))))
set_option maxHeartbeats 4000000 in
set_option maxRecDepth 100000 in
theorem lX0_sumInOneLine_42 {g : rj_G} {ω : rj_W} (hω : rj_ok ω) (μ : rj_M)     {F : rj_F} : ∀ (r j : Nat) (s : Int32 × rj_M), j + r = 12 → (rj_R g RX0 cX0_sumInOneLine 4 (some .int) wsX0_sumInOneLine [] (rj_rm 2 0) F 0 ω ((rj_br (bX0_sumInOneLine_42 μ) r j s).2.2) [(0, .ref (ω.2.2 21)), (1, .int ((rj_br (bX0_sumInOneLine_42 μ) r j s).2.1)), (2, .int (nI (rj_br (bX0_sumInOneLine_42 μ) r j s).1))] 112 []) → rj_R g RX0 cX0_sumInOneLine 4 (some .int) wsX0_sumInOneLine [] (rj_rm 2 0) F 0 ω s.2 [(0, .ref (ω.2.2 21)), (1, .int s.1), (2, .int (nI j))] 42 [] := by
  intro r
  induction r with
  | zero =>
    intro j s hj K
    have e0 : j = 12 := by omega
    have hge : 12 ≤ nI j := by
      rw [e0]
      exact Int32.le_refl _
    refine rj_iload_n 2 dX0_sumInOneLine_42 rfl rfl ?_
    refine rj_bipush (v := 12) dX0_sumInOneLine_43 rfl (by decide) ?_
    refine rj_icmp_ge dX0_sumInOneLine_45 rfl rfl (fun h7 => ?_) (fun h7 => ?_)
    · rw [rj_br_0] at K
      exact K
    · exact absurd hge h7
  | succ r ih =>
    intro j42 s42 hj K
    have hl42 : j42 < 12 := by omega
    have hg42 : ¬ 12 ≤ nI j42 := nI_ge hl42 (rj_bl rfl)
    refine rj_iload_n 2 dX0_sumInOneLine_42 rfl rfl ?_
    refine rj_bipush (v := 12) dX0_sumInOneLine_43 rfl (by decide) ?_
    refine rj_icmp_ge dX0_sumInOneLine_45 rfl rfl (fun h4 => ?_) (fun h4 => ?_)
    · exact absurd h4 hg42
    · refine rj_iload_n 2 dX0_sumInOneLine_48 rfl rfl ?_
      refine rj_aload_n 0 dX0_sumInOneLine_49 rfl rfl ?_
      refine rj_getI (C0 := RX0) (T := TX0) (N := 7) (j := 1) dX0_sumInOneLine_50 rfl vX0_sumInOneLine_0 rfl (rj_lt hω (k := 21) rfl) (rj_sh hω ly_21) (by decide) kX0_sumInOneLine_15 rfl ?_
      refine rj_icmp_ge dX0_sumInOneLine_53 rfl rfl (fun h5 => ?_) (fun h5 => ?_)
      · have e : bX0_sumInOneLine_42 μ j42 s42 = .inr (j42, (s42.1, s42.2)) := by unfold bX0_sumInOneLine_42; rw [if_pos h5]; try rfl
        exact rj_sub (l' := [(0, .ref (ω.2.2 21)), (1, .int s42.1), (2, .int (nI j42))]) [0, 1, 2] rfl (by rw [rj_br_r e] at K; exact K)
      · refine rj_aload_n 0 dX0_sumInOneLine_56 rfl rfl ?_
        refine rj_aload_n 0 dX0_sumInOneLine_57 rfl rfl ?_
        refine rj_aload_n 0 dX0_sumInOneLine_58 rfl rfl ?_
        refine rj_getR (C0 := RX0) (T := TX0) (N := 7) (j := 0) (r := 22) dX0_sumInOneLine_59 rfl vX0_sumInOneLine_0 rfl (rj_lt hω (k := 21) rfl) (rj_sh hω ly_21) (by decide) kX0_sumInOneLine_9 rfl ?_
        refine rj_iload_n 2 dX0_sumInOneLine_62 rfl rfl ?_
        refine rj_iald dX0_sumInOneLine_63 rfl (rj_lt hω (k := 22) rfl) (rj_sh hω ly_22) (vp_in_nI hl42 (rj_bl rfl)) ?_
        refine rj_cV (rest := [.ref (ω.2.2 21)]) (sX0_barOf (g := g) (ω := ω) hω s42.2 (s42.2.1 22 (nI j42).toNatClampNeg)  ) gX0_sumInOneLine_X0_barOf (rj_lt hω (k := 21) rfl) (rj_sh hω ly_21) rfl rfl hVX0_barOf ⟨Nat.le_of_ble_eq_true rfl, Nat.le_of_ble_eq_true rfl⟩ dX0_sumInOneLine_64 rfl rfl rfl (Nat.le_of_ble_eq_true rfl) rfl (Nat.le_of_ble_eq_true rfl) rfl ?_
        refine rj_cV (rest := []) (sX0_firstOf (g := g) (ω := ω) hω s42.2 (fX0_barOf s42.2 (s42.2.1 22 (nI j42).toNatClampNeg))  ) gX0_sumInOneLine_X0_firstOf (rj_lt hω (k := 21) rfl) (rj_sh hω ly_21) rfl rfl hVX0_firstOf ⟨Nat.le_of_ble_eq_true rfl, Nat.le_of_ble_eq_true rfl⟩ dX0_sumInOneLine_67 rfl rfl rfl (Nat.le_of_ble_eq_true rfl) rfl (Nat.le_of_ble_eq_true rfl) rfl ?_
        refine rj_aload_n 0 dX0_sumInOneLine_70 rfl rfl ?_
        refine rj_getR (C0 := RX0) (T := TX0) (N := 7) (j := 0) (r := 22) dX0_sumInOneLine_71 rfl vX0_sumInOneLine_0 rfl (rj_lt hω (k := 21) rfl) (rj_sh hω ly_21) (by decide) kX0_sumInOneLine_9 rfl ?_
        refine rj_iload_n 2 dX0_sumInOneLine_74 rfl rfl ?_
        refine rj_iald dX0_sumInOneLine_75 rfl (rj_lt hω (k := 22) rfl) (rj_sh hω ly_22) (vp_in_nI hl42 (rj_bl rfl)) ?_
        refine rj_icmp_eq dX0_sumInOneLine_76 rfl rfl (fun h6 => ?_) (fun h6 => ?_)
        · refine rj_iinc (v := nI (j42 + 1)) (l' := [(2, .int (nI (j42 + 1))), (0, .ref (ω.2.2 21)), (1, .int s42.1)]) 2 dX0_sumInOneLine_106 rfl rfl (nI_succ j42).symm (rj_bl rfl) rfl ?_
          refine rj_goto dX0_sumInOneLine_109 rfl ?_
          have e : bX0_sumInOneLine_42 μ j42 s42 = .inl (s42.1, s42.2) := by unfold bX0_sumInOneLine_42; rw [if_neg h5]; rw [if_pos h6]; try rfl
          exact rj_sub (l' := [(0, .ref (ω.2.2 21)), (1, .int s42.1), (2, .int (nI (j42 + 1)))]) [1, 2, 0] rfl (ih (j42 + 1) (s42.1, s42.2) (by omega) (by rw [rj_br_l e] at K; exact K))
        · refine rj_aload_n 0 dX0_sumInOneLine_79 rfl rfl ?_
          refine rj_cV (rest := []) (sX0_freeFirst (g := g) (ω := ω) hω s42.2  ) gX0_sumInOneLine_X0_freeFirst (rj_lt hω (k := 21) rfl) (rj_sh hω ly_21) rfl rfl hVX0_freeFirst ⟨Nat.le_of_ble_eq_true rfl, Nat.le_of_ble_eq_true rfl⟩ dX0_sumInOneLine_80 rfl rfl rfl (Nat.le_of_ble_eq_true rfl) rfl (Nat.le_of_ble_eq_true rfl) rfl ?_
          refine rj_istore_n (l' := [(3, .int (fX0_freeFirst s42.2)), (0, .ref (ω.2.2 21)), (1, .int s42.1), (2, .int (nI j42))]) dX0_sumInOneLine_83 rfl (rj_bl rfl) rfl ?_
          refine rj_iload_n 2 dX0_sumInOneLine_84 rfl rfl ?_
          refine rj_aload_n 1 dX0_sumInOneLine_85 rfl rfl ?_
          refine rj_getR (C0 := RX0) (T := TX0) (N := 7) (j := 4) (r := 25) dX0_sumInOneLine_86 rfl vX0_sumInOneLine_0 rfl (rj_lt hω (k := 21) rfl) (rj_sh hω ly_21) (by decide) kX0_sumInOneLine_25 rfl ?_
          refine rj_iload_n 0 dX0_sumInOneLine_89 rfl rfl ?_
          refine rj_iald dX0_sumInOneLine_90 rfl (rj_lt hω (k := 25) rfl) (rj_sh hω ly_25) rj_ffin ?_
          refine rj_iadd dX0_sumInOneLine_91 rfl ?_
          refine rj_istore_n (l' := [(1, .int (s42.1 + (s42.2.1 25 (fX0_freeFirst s42.2).toNatClampNeg))), (3, .int (fX0_freeFirst s42.2)), (0, .ref (ω.2.2 21)), (2, .int (nI j42))]) dX0_sumInOneLine_92 rfl (rj_bl rfl) rfl ?_
          refine rj_aload_n 2 dX0_sumInOneLine_93 rfl rfl ?_
          refine rj_getR (C0 := RX0) (T := TX0) (N := 7) (j := 4) (r := 25) dX0_sumInOneLine_94 rfl vX0_sumInOneLine_0 rfl (rj_lt hω (k := 21) rfl) (rj_sh hω ly_21) (by decide) kX0_sumInOneLine_25 rfl ?_
          refine rj_iload_n 1 dX0_sumInOneLine_97 rfl rfl ?_
          refine rj_dup2 dX0_sumInOneLine_98 rfl rfl rfl ?_
          refine rj_iald dX0_sumInOneLine_99 rfl (rj_lt hω (k := 25) rfl) (rj_sh hω ly_25) rj_ffin ?_
          refine rj_aload_n 2 dX0_sumInOneLine_100 rfl rfl ?_
          refine rj_getI (C0 := RX0) (T := TX0) (N := 7) (j := 5) dX0_sumInOneLine_101 rfl vX0_sumInOneLine_0 rfl (rj_lt hω (k := 21) rfl) (rj_sh hω ly_21) (by decide) kX0_sumInOneLine_28 rfl ?_
          refine rj_iadd dX0_sumInOneLine_104 rfl ?_
          refine rj_iast dX0_sumInOneLine_105 rfl (rj_lt hω (k := 25) rfl) (rj_sh hω ly_25) rj_ffin ?_
          refine rj_iinc (v := nI (j42 + 1)) (l' := [(2, .int (nI (j42 + 1))), (1, .int (s42.1 + (s42.2.1 25 (fX0_freeFirst s42.2).toNatClampNeg))), (3, .int (fX0_freeFirst s42.2)), (0, .ref (ω.2.2 21))]) 3 dX0_sumInOneLine_106 rfl rfl (nI_succ j42).symm (rj_bl rfl) rfl ?_
          refine rj_goto dX0_sumInOneLine_109 rfl ?_
          have e : bX0_sumInOneLine_42 μ j42 s42 = .inl ((s42.1 + (s42.2.1 25 (fX0_freeFirst s42.2).toNatClampNeg)), (rj_pi s42.2 25 (fX0_freeFirst s42.2).toNatClampNeg ((s42.2.1 25 (fX0_freeFirst s42.2).toNatClampNeg) + (s42.2.1 21 5)))) := by unfold bX0_sumInOneLine_42; rw [if_neg h5]; rw [if_neg h6]; try rfl
          exact rj_sub (l' := [(0, .ref (ω.2.2 21)), (1, .int (s42.1 + (s42.2.1 25 (fX0_freeFirst s42.2).toNatClampNeg))), (2, .int (nI (j42 + 1)))]) [3, 1, 0] rfl (ih (j42 + 1) ((s42.1 + (s42.2.1 25 (fX0_freeFirst s42.2).toNatClampNeg)), (rj_pi s42.2 25 (fX0_freeFirst s42.2).toNatClampNeg ((s42.2.1 25 (fX0_freeFirst s42.2).toNatClampNeg) + (s42.2.1 21 5)))) (by omega) (by rw [rj_br_l e] at K; exact K))
set_option maxHeartbeats 4000000 in
theorem lX0_sumInOneLine_42u {g : rj_G} {ω : rj_W} (hω : rj_ok ω) (μ : rj_M)     {F : rj_F} : ∀ (r j : Nat) (c0 : Int32) (c1 : rj_M), j + r = 12 → (rj_R g RX0 cX0_sumInOneLine 4 (some .int) wsX0_sumInOneLine [] (rj_rm 2 0) F 0 ω ((rj_br (bX0_sumInOneLine_42 μ) r j (c0, c1)).2.2) [(0, .ref (ω.2.2 21)), (1, .int ((rj_br (bX0_sumInOneLine_42 μ) r j (c0, c1)).2.1)), (2, .int (nI (rj_br (bX0_sumInOneLine_42 μ) r j (c0, c1)).1))] 112 []) → rj_R g RX0 cX0_sumInOneLine 4 (some .int) wsX0_sumInOneLine [] (rj_rm 2 0) F 0 ω c1 [(0, .ref (ω.2.2 21)), (1, .int c0), (2, .int (nI j))] 42 [] := fun r j c0 c1 => lX0_sumInOneLine_42 hω μ     r j (c0, c1)
def fX0_sumInOneLine (μ : rj_M) : Int32 := (rj_br (bX0_sumInOneLine_42 μ) 12 0 (0, (rj_fo (bX0_sumInOneLine_2 μ) 3 0 μ))).2.1
def mX0_sumInOneLine (μ : rj_M) : rj_M := (rj_br (bX0_sumInOneLine_42 μ) 12 0 (0, (rj_fo (bX0_sumInOneLine_2 μ) 3 0 μ))).2.2
set_option maxHeartbeats 4000000 in
set_option maxRecDepth 100000 in
theorem sX0_sumInOneLine {g : rj_G} {ω : rj_W} (hω : rj_ok ω) (μ : rj_M)   : rj_Sp g yX0_sumInOneLine wsX0_sumInOneLine (rj_rm 2 0) [.ref (ω.2.2 21)] ω μ (rj_D (.inl (some (.int (fX0_sumInOneLine μ)))) ω (mX0_sumInOneLine μ)) := by
  refine rj_of' (cc := cX0_sumInOneLine) (nL := 4) (ret := (some .int)) (own := RX0) (l0 := [(0, .ref (ω.2.2 21))]) rfl (by decide +kernel) rfl (Nat.le_of_ble_eq_true rfl) rfl ?_
  refine rj_iconst (v := 0) dX0_sumInOneLine_0 rfl (by decide) ?_
  refine rj_istore_n (l' := [(1, .int 0), (0, .ref (ω.2.2 21))]) dX0_sumInOneLine_1 rfl (rj_bl rfl) rfl ?_
  refine rj_sub (l' := [(0, .ref (ω.2.2 21)), (1, .int (nI 0))]) [1, 0] rfl ?_
  refine lX0_sumInOneLine_2 hω μ     3 0 μ rfl ?_
  refine rj_iconst (v := 0) dX0_sumInOneLine_38 rfl (by decide) ?_
  refine rj_istore_n (l' := [(1, .int 0), (0, .ref (ω.2.2 21))]) dX0_sumInOneLine_39 rfl (rj_bl rfl) rfl ?_
  refine rj_iconst (v := 0) dX0_sumInOneLine_40 rfl (by decide) ?_
  refine rj_istore_n (l' := [(2, .int 0), (1, .int 0), (0, .ref (ω.2.2 21))]) dX0_sumInOneLine_41 rfl (rj_bl rfl) rfl ?_
  refine rj_sub (l' := [(0, .ref (ω.2.2 21)), (1, .int 0), (2, .int (nI 0))]) [2, 1, 0] rfl ?_
  refine lX0_sumInOneLine_42u hω μ     12 0 0 (rj_fo (bX0_sumInOneLine_2 μ) 3 0 μ) rfl ?_
  refine rj_iload_n 1 dX0_sumInOneLine_112 rfl rfl ?_
  exact rj_iret dX0_sumInOneLine_113 rfl (Nat.le_of_ble_eq_true rfl) (Nat.le_of_ble_eq_true rfl) ⟨(by unfold fX0_sumInOneLine; rfl), rfl, (by unfold mX0_sumInOneLine; rfl)⟩
