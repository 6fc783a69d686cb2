theorem hSX3_crowdOf : yX3_crowdOf.cls ≠ "java/lang/invoke/MethodHandle" ∧ yX3_crowdOf.cls ≠ "java/lang/invoke/VarHandle" ∧ (parseMethodDescriptor yX3_crowdOf.desc).map (fun d => d.parameters.length) = some 1 := by decide +kernel
theorem hVX3_crowdOf : yX3_crowdOf.cls = RX3 ∧ yX3_crowdOf.cls ≠ "java/lang/invoke/MethodHandle" ∧ yX3_crowdOf.cls ≠ "java/lang/invoke/VarHandle" ∧ (parseMethodDescriptor yX3_crowdOf.desc).map (fun d => d.parameters.length) = some 1 := by decide +kernel
theorem vX3_crowdOf_3 : ∀ w ∈ u_ws RX3 TX3 3, w ∈ wsX3_crowdOf := by decide +kernel
theorem kX3_crowdOf_18 : Cond.fieldLink RX3 18 (TX3 2).1 (TX3 2).2.1 (TX3 2).2.2.1 ∈ wsX3_crowdOf := by decide +kernel
def bX3_crowdOf_4 (μ : rj_M) (a0 : Int32) (j4 : Nat) (s4 : Int32) : Int32 := (if ((a0 >>> ((nI j4) &&& 31)) &&& 1) = 0 then s4 else (s4 + (μ.1 20 (nI j4).toNatClampNeg)))
set_option maxHeartbeats 4000000 in
set_option maxRecDepth 100000 in
theorem lX3_crowdOf_4 {g : rj_G} {ω : rj_W} (hω : rj_ok ω) (μ : rj_M) (a0 : Int32)     {F : rj_F} : ∀ (r j : Nat) (s : Int32), j + r = 4 → (rj_R g RX3 cX3_crowdOf 4 (some .int) wsX3_crowdOf [] (rj_rm 0 0) F 0 ω μ [(0, .ref (ω.2.2 17)), (1, .int a0), (2, .int (rj_fo (bX3_crowdOf_4 μ a0) r j s)), (3, .int (nI 4))] 32 []) → rj_R g RX3 cX3_crowdOf 4 (some .int) wsX3_crowdOf [] (rj_rm 0 0) F 0 ω μ [(0, .ref (ω.2.2 17)), (1, .int a0), (2, .int s), (3, .int (nI j))] 4 [] := by
  intro r
  induction r with
  | zero =>
    intro j s hj K
    have e0 : j = 4 := by omega
    have hge : 4 ≤ nI j := by
      rw [e0]
      exact Int32.le_refl _
    refine rj_iload_n 3 dX3_crowdOf_4 rfl rfl ?_
    refine rj_iconst (v := 4) dX3_crowdOf_5 rfl (by decide) ?_
    refine rj_icmp_ge dX3_crowdOf_6 rfl rfl (fun h3 => ?_) (fun h3 => ?_)
    · have e1 : nI j = nI 4 := by rw [e0]
      rw [e1]
      exact K
    · exact absurd hge h3
  | succ r ih =>
    intro j4 s4 hj K
    have hl4 : j4 < 4 := by omega
    have hg4 : ¬ 4 ≤ nI j4 := nI_ge hl4 (rj_bl rfl)
    refine rj_iload_n 3 dX3_crowdOf_4 rfl rfl ?_
    refine rj_iconst (v := 4) dX3_crowdOf_5 rfl (by decide) ?_
    refine rj_icmp_ge dX3_crowdOf_6 rfl rfl (fun h1 => ?_) (fun h1 => ?_)
    · exact absurd h1 hg4
    · refine rj_iload_n 1 dX3_crowdOf_9 rfl rfl ?_
      refine rj_iload_n 3 dX3_crowdOf_10 rfl rfl ?_
      refine rj_ishr dX3_crowdOf_11 rfl ?_
      refine rj_iconst (v := 1) dX3_crowdOf_12 rfl (by decide) ?_
      refine rj_iand dX3_crowdOf_13 rfl ?_
      refine rj_if_eq dX3_crowdOf_14 rfl rfl (fun h2 => ?_) (fun h2 => ?_)
      · refine rj_iinc (v := nI (j4 + 1)) (l' := [(3, .int (nI (j4 + 1))), (0, .ref (ω.2.2 17)), (1, .int a0), (2, .int s4)]) 3 dX3_crowdOf_26 rfl rfl (nI_succ j4).symm (rj_bl rfl) rfl ?_
        refine rj_goto dX3_crowdOf_29 rfl ?_
        have e : bX3_crowdOf_4 μ a0 j4 s4 = s4 := by unfold bX3_crowdOf_4; rw [if_pos h2]; try rfl
        exact rj_sub (l' := [(0, .ref (ω.2.2 17)), (1, .int a0), (2, .int s4), (3, .int (nI (j4 + 1)))]) [1, 2, 3, 0] rfl (ih (j4 + 1) s4 (by omega) (by rw [rj_fo_s, e] at K; exact K))
      · refine rj_iload_n 2 dX3_crowdOf_17 rfl rfl ?_
        refine rj_aload_n 0 dX3_crowdOf_18 rfl rfl ?_
        refine rj_getR (C0 := RX3) (T := TX3) (N := 3) (j := 2) (r := 20) dX3_crowdOf_19 rfl vX3_crowdOf_3 rfl (rj_lt hω (k := 17) rfl) (rj_sh hω ly_17) (by decide) kX3_crowdOf_18 rfl ?_
        refine rj_iload_n 3 dX3_crowdOf_22 rfl rfl ?_
        refine rj_iald dX3_crowdOf_23 rfl (rj_lt hω (k := 20) rfl) (rj_sh hω ly_20) (vp_in_nI hl4 (rj_bl rfl)) ?_
        refine rj_iadd dX3_crowdOf_24 rfl ?_
        refine rj_istore_n (l' := [(2, .int (s4 + (μ.1 20 (nI j4).toNatClampNeg))), (0, .ref (ω.2.2 17)), (1, .int a0), (3, .int (nI j4))]) dX3_crowdOf_25 rfl (rj_bl rfl) rfl ?_
        refine rj_iinc (v := nI (j4 + 1)) (l' := [(3, .int (nI (j4 + 1))), (2, .int (s4 + (μ.1 20 (nI j4).toNatClampNeg))), (0, .ref (ω.2.2 17)), (1, .int a0)]) 3 dX3_crowdOf_26 rfl rfl (nI_succ j4).symm (rj_bl rfl) rfl ?_
        refine rj_goto dX3_crowdOf_29 rfl ?_
        have e : bX3_crowdOf_4 μ a0 j4 s4 = (s4 + (μ.1 20 (nI j4).toNatClampNeg)) := by unfold bX3_crowdOf_4; rw [if_neg h2]; try rfl
        exact rj_sub (l' := [(0, .ref (ω.2.2 17)), (1, .int a0), (2, .int (s4 + (μ.1 20 (nI j4).toNatClampNeg))), (3, .int (nI (j4 + 1)))]) [2, 3, 1, 0] rfl (ih (j4 + 1) (s4 + (μ.1 20 (nI j4).toNatClampNeg)) (by omega) (by rw [rj_fo_s, e] at K; exact K))
def fX3_crowdOf (μ : rj_M) (a0 : Int32) : Int32 := (rj_fo (bX3_crowdOf_4 μ a0) 4 0 0)
set_option maxHeartbeats 4000000 in
set_option maxRecDepth 100000 in
theorem sX3_crowdOf {g : rj_G} {ω : rj_W} (hω : rj_ok ω) (μ : rj_M) (a0 : Int32)   : rj_Sp g yX3_crowdOf wsX3_crowdOf (rj_rm 0 0) [.ref (ω.2.2 17), .int a0] ω μ (rj_D (.inl (some (.int (fX3_crowdOf μ a0)))) ω μ) := by
  refine rj_of' (cc := cX3_crowdOf) (nL := 4) (ret := (some .int)) (own := RX3) (l0 := [(0, .ref (ω.2.2 17)), (1, .int a0)]) rfl (by decide +kernel) rfl (Nat.le_of_ble_eq_true rfl) rfl ?_
  refine rj_iconst (v := 0) dX3_crowdOf_0 rfl (by decide) ?_
  refine rj_istore_n (l' := [(2, .int 0), (0, .ref (ω.2.2 17)), (1, .int a0)]) dX3_crowdOf_1 rfl (rj_bl rfl) rfl ?_
  refine rj_iconst (v := 0) dX3_crowdOf_2 rfl (by decide) ?_
  refine rj_istore_n (l' := [(3, .int 0), (2, .int 0), (0, .ref (ω.2.2 17)), (1, .int a0)]) dX3_crowdOf_3 rfl (rj_bl rfl) rfl ?_
  refine rj_sub (l' := [(0, .ref (ω.2.2 17)), (1, .int a0), (2, .int 0), (3, .int (nI 0))]) [2, 3, 1, 0] rfl ?_
  refine lX3_crowdOf_4 hω μ a0     4 0 0 rfl ?_
  refine rj_iload_n 2 dX3_crowdOf_32 rfl rfl ?_
  exact rj_iret dX3_crowdOf_33 rfl (Nat.le_of_ble_eq_true rfl) (Nat.le_of_ble_eq_true rfl) ⟨(by unfold fX3_crowdOf; rfl), rfl, rfl⟩
theorem hSX3_leastReach : yX3_leastReach.cls ≠ "java/lang/invoke/MethodHandle" ∧ yX3_leastReach.cls ≠ "java/lang/invoke/VarHandle" ∧ (parseMethodDescriptor yX3_leastReach.desc).map (fun d => d.parameters.length) = some 2 := by decide +kernel
theorem hVX3_leastReach : yX3_leastReach.cls = RX3 ∧ yX3_leastReach.cls ≠ "java/lang/invoke/MethodHandle" ∧ yX3_leastReach.cls ≠ "java/lang/invoke/VarHandle" ∧ (parseMethodDescriptor yX3_leastReach.desc).map (fun d => d.parameters.length) = some 2 := by decide +kernel
theorem vX3_leastReach_3 : ∀ w ∈ u_ws RX3 TX3 3, w ∈ wsX3_leastReach := by decide +kernel
theorem kX3_leastReach_15 : Cond.fieldLink RX3 15 (TX3 1).1 (TX3 1).2.1 (TX3 1).2.2.1 ∈ wsX3_leastReach := by decide +kernel
theorem jX3_leastReach_52_0 : Cond.methodLink RX3 52 Lib.Math.min.name ∈ wsX3_leastReach := by decide +kernel
theorem jX3_leastReach_52_1 : Cond.static Lib.Math.min.name ∈ wsX3_leastReach := by decide +kernel
theorem jX3_leastReach_52_2 : Cond.initialized "java/lang/Math" ∈ wsX3_leastReach := by decide +kernel
theorem jX3_leastReach_52_3 : Cond.code Lib.Math.min.name Lib.Math.min.code 2 (some .int) ∈ wsX3_leastReach := by decide +kernel
def bX3_leastReach_7 (μ : rj_M) (a0 : Int32) (a1 : Int32) (j7 : Nat) (s7 : Int32) : Int32 := (if ((a1 >>> ((nI j7) &&& 31)) &&& 1) = 0 then s7 else (if ((a0 * 4) + (nI j7)) < 0 then s7 else (if 12 ≤ ((a0 * 4) + (nI j7)) then s7 else (if (μ.1 19 ((a0 * 4) + (nI j7)).toNatClampNeg) < s7 then (μ.1 19 ((a0 * 4) + (nI j7)).toNatClampNeg) else s7))))
set_option maxHeartbeats 4000000 in
set_option maxRecDepth 100000 in
theorem lX3_leastReach_7 {g : rj_G} {ω : rj_W} (hω : rj_ok ω) (μ : rj_M) (a0 : Int32) (a1 : Int32)     {F : rj_F} : ∀ (r j : Nat) (s : Int32), j + r = 4 → (rj_R g RX3 cX3_leastReach 6 (some .int) wsX3_leastReach [] (rj_rm 1 0) F 0 ω μ [(0, .ref (ω.2.2 17)), (1, .int a0), (2, .int a1), (3, .int (rj_fo (bX3_leastReach_7 μ a0 a1) r j s)), (4, .int (nI 4))] 63 []) → rj_R g RX3 cX3_leastReach 6 (some .int) wsX3_leastReach [] (rj_rm 1 0) F 0 ω μ [(0, .ref (ω.2.2 17)), (1, .int a0), (2, .int a1), (3, .int s), (4, .int (nI j))] 7 [] := by
  intro r
  induction r with
  | zero =>
    intro j s hj K
    have e0 : j = 4 := by omega
    have hge : 4 ≤ nI j := by
      rw [e0]
      exact Int32.le_refl _
    refine rj_iload 4 dX3_leastReach_7 rfl rfl ?_
    refine rj_iconst (v := 4) dX3_leastReach_9 rfl (by decide) ?_
    refine rj_icmp_ge dX3_leastReach_10 rfl rfl (fun h5 => ?_) (fun h5 => ?_)
    · have e1 : nI j = nI 4 := by rw [e0]
      rw [e1]
      exact K
    · exact absurd hge h5
  | succ r ih =>
    intro j7 s7 hj K
    have hl7 : j7 < 4 := by omega
    have hg7 : ¬ 4 ≤ nI j7 := nI_ge hl7 (rj_bl rfl)
    refine rj_iload 4 dX3_leastReach_7 rfl rfl ?_
    refine rj_iconst (v := 4) dX3_leastReach_9 rfl (by decide) ?_
    refine rj_icmp_ge dX3_leastReach_10 rfl rfl (fun h1 => ?_) (fun h1 => ?_)
    · exact absurd h1 hg7
    · refine rj_iload_n 1 dX3_leastReach_13 rfl rfl ?_
      refine rj_iconst (v := 4) dX3_leastReach_14 rfl (by decide) ?_
      refine rj_imul dX3_leastReach_15 rfl ?_
      refine rj_iload 4 dX3_leastReach_16 rfl rfl ?_
      refine rj_iadd dX3_leastReach_18 rfl ?_
      refine rj_istore (l' := [(5, .int ((a0 * 4) + (nI j7))), (0, .ref (ω.2.2 17)), (1, .int a0), (2, .int a1), (3, .int s7), (4, .int (nI j7))]) dX3_leastReach_19 rfl (rj_bl rfl) rfl ?_
      refine rj_iload_n 3 dX3_leastReach_21 rfl rfl ?_
      refine rj_iload 5 dX3_leastReach_22 rfl rfl ?_
      refine rj_ishr dX3_leastReach_24 rfl ?_
      refine rj_iconst (v := 1) dX3_leastReach_25 rfl (by decide) ?_
      refine rj_iand dX3_leastReach_26 rfl ?_
      refine rj_if_eq dX3_leastReach_27 rfl rfl (fun h2 => ?_) (fun h2 => ?_)
      · refine rj_iinc (v := nI (j7 + 1)) (l' := [(4, .int (nI (j7 + 1))), (5, .int ((a0 * 4) + (nI j7))), (0, .ref (ω.2.2 17)), (1, .int a0), (2, .int a1), (3, .int s7)]) 5 dX3_leastReach_57 rfl rfl (nI_succ j7).symm (rj_bl rfl) rfl ?_
        refine rj_goto dX3_leastReach_60 rfl ?_
        have e : bX3_leastReach_7 μ a0 a1 j7 s7 = s7 := by unfold bX3_leastReach_7; rw [if_pos h2]; try rfl
        exact rj_sub (l' := [(0, .ref (ω.2.2 17)), (1, .int a0), (2, .int a1), (3, .int s7), (4, .int (nI (j7 + 1)))]) [2, 3, 4, 5, 0] rfl (ih (j7 + 1) s7 (by omega) (by rw [rj_fo_s, e] at K; exact K))
      · refine rj_iload 0 dX3_leastReach_30 rfl rfl ?_
        refine rj_if_lt dX3_leastReach_32 rfl rfl (fun h3 => ?_) (fun h3 => ?_)
        · refine rj_iinc (v := nI (j7 + 1)) (l' := [(4, .int (nI (j7 + 1))), (5, .int ((a0 * 4) + (nI j7))), (0, .ref (ω.2.2 17)), (1, .int a0), (2, .int a1), (3, .int s7)]) 5 dX3_leastReach_57 rfl rfl (nI_succ j7).symm (rj_bl rfl) rfl ?_
          refine rj_goto dX3_leastReach_60 rfl ?_
          have e : bX3_leastReach_7 μ a0 a1 j7 s7 = s7 := by unfold bX3_leastReach_7; rw [if_neg h2]; rw [if_pos h3]; try rfl
          exact rj_sub (l' := [(0, .ref (ω.2.2 17)), (1, .int a0), (2, .int a1), (3, .int s7), (4, .int (nI (j7 + 1)))]) [2, 3, 4, 5, 0] rfl (ih (j7 + 1) s7 (by omega) (by rw [rj_fo_s, e] at K; exact K))
        · refine rj_iload 0 dX3_leastReach_35 rfl rfl ?_
          refine rj_aload_n 1 dX3_leastReach_37 rfl rfl ?_
          refine rj_getR (C0 := RX3) (T := TX3) (N := 3) (j := 1) (r := 19) dX3_leastReach_38 rfl vX3_leastReach_3 rfl (rj_lt hω (k := 17) rfl) (rj_sh hω ly_17) (by decide) kX3_leastReach_15 rfl ?_
          refine rj_alen (v := 12) dX3_leastReach_41 rfl (rj_lt hω (k := 19) rfl) (rj_sh hω ly_19) rfl rfl ?_
          refine rj_icmp_ge dX3_leastReach_42 rfl rfl (fun h4 => ?_) (fun h4 => ?_)
          · refine rj_iinc (v := nI (j7 + 1)) (l' := [(4, .int (nI (j7 + 1))), (5, .int ((a0 * 4) + (nI j7))), (0, .ref (ω.2.2 17)), (1, .int a0), (2, .int a1), (3, .int s7)]) 5 dX3_leastReach_57 rfl rfl (nI_succ j7).symm (rj_bl rfl) rfl ?_
            refine rj_goto dX3_leastReach_60 rfl ?_
            have e : bX3_leastReach_7 μ a0 a1 j7 s7 = s7 := by unfold bX3_leastReach_7; rw [if_neg h2]; rw [if_neg h3]; rw [if_pos h4]; try rfl
            exact rj_sub (l' := [(0, .ref (ω.2.2 17)), (1, .int a0), (2, .int a1), (3, .int s7), (4, .int (nI (j7 + 1)))]) [2, 3, 4, 5, 0] rfl (ih (j7 + 1) s7 (by omega) (by rw [rj_fo_s, e] at K; exact K))
          · refine rj_iload_n 4 dX3_leastReach_45 rfl rfl ?_
            refine rj_aload_n 1 dX3_leastReach_46 rfl rfl ?_
            refine rj_getR (C0 := RX3) (T := TX3) (N := 3) (j := 1) (r := 19) dX3_leastReach_47 rfl vX3_leastReach_3 rfl (rj_lt hω (k := 17) rfl) (rj_sh hω ly_17) (by decide) kX3_leastReach_15 rfl ?_
            refine rj_iload 0 dX3_leastReach_50 rfl rfl ?_
            refine rj_iald dX3_leastReach_52 rfl (rj_lt hω (k := 19) rfl) (rj_sh hω ly_19) (rj_in h3 h4 rfl) ?_
            refine rj_mmin dX3_leastReach_53 rfl jX3_leastReach_52_0 jX3_leastReach_52_1 jX3_leastReach_52_2 jX3_leastReach_52_3 (Nat.le_of_ble_eq_true rfl) (Nat.le_of_ble_eq_true rfl) (Nat.le_of_ble_eq_true rfl) (Nat.le_of_ble_eq_true rfl) ?_
            refine rj_istore_n (l' := [(3, .int (if (μ.1 19 ((a0 * 4) + (nI j7)).toNatClampNeg) < s7 then (μ.1 19 ((a0 * 4) + (nI j7)).toNatClampNeg) else s7)), (5, .int ((a0 * 4) + (nI j7))), (0, .ref (ω.2.2 17)), (1, .int a0), (2, .int a1), (4, .int (nI j7))]) dX3_leastReach_56 rfl (rj_bl rfl) rfl ?_
            refine rj_iinc (v := nI (j7 + 1)) (l' := [(4, .int (nI (j7 + 1))), (3, .int (if (μ.1 19 ((a0 * 4) + (nI j7)).toNatClampNeg) < s7 then (μ.1 19 ((a0 * 4) + (nI j7)).toNatClampNeg) else s7)), (5, .int ((a0 * 4) + (nI j7))), (0, .ref (ω.2.2 17)), (1, .int a0), (2, .int a1)]) 5 dX3_leastReach_57 rfl rfl (nI_succ j7).symm (rj_bl rfl) rfl ?_
            refine rj_goto dX3_leastReach_60 rfl ?_
            have e : bX3_leastReach_7 μ a0 a1 j7 s7 = (if (μ.1 19 ((a0 * 4) + (nI j7)).toNatClampNeg) < s7 then (μ.1 19 ((a0 * 4) + (nI j7)).toNatClampNeg) else s7) := by unfold bX3_leastReach_7; rw [if_neg h2]; rw [if_neg h3]; rw [if_neg h4]; try rfl
            exact rj_sub (l' := [(0, .ref (ω.2.2 17)), (1, .int a0), (2, .int a1), (3, .int (if (μ.1 19 ((a0 * 4) + (nI j7)).toNatClampNeg) < s7 then (μ.1 19 ((a0 * 4) + (nI j7)).toNatClampNeg) else s7)), (4, .int (nI (j7 + 1)))]) [3, 4, 5, 1, 0] rfl (ih (j7 + 1) (if (μ.1 19 ((a0 * 4) + (nI j7)).toNatClampNeg) < s7 then (μ.1 19 ((a0 * 4) + (nI j7)).toNatClampNeg) else s7) (by omega) (by rw [rj_fo_s, e] at K; exact K))
def fX3_leastReach (μ : rj_M) (a0 : Int32) (a1 : Int32) : Int32 := (rj_fo (bX3_leastReach_7 μ a0 a1) 4 0 8192)
set_option maxHeartbeats 4000000 in
set_option maxRecDepth 100000 in
theorem sX3_leastReach {g : rj_G} {ω : rj_W} (hω : rj_ok ω) (μ : rj_M) (a0 : Int32) (a1 : Int32)   : rj_Sp g yX3_leastReach wsX3_leastReach (rj_rm 1 0) [.ref (ω.2.2 17), .int a0, .int a1] ω μ (rj_D (.inl (some (.int (fX3_leastReach μ a0 a1)))) ω μ) := by
  refine rj_of' (cc := cX3_leastReach) (nL := 6) (ret := (some .int)) (own := RX3) (l0 := [(0, .ref (ω.2.2 17)), (1, .int a0), (2, .int a1)]) rfl (by decide +kernel) rfl (Nat.le_of_ble_eq_true rfl) rfl ?_
  refine rj_sipush (v := 8192) dX3_leastReach_0 rfl (by decide) ?_
  refine rj_istore_n (l' := [(3, .int 8192), (0, .ref (ω.2.2 17)), (1, .int a0), (2, .int a1)]) dX3_leastReach_3 rfl (rj_bl rfl) rfl ?_
  refine rj_iconst (v := 0) dX3_leastReach_4 rfl (by decide) ?_
  refine rj_istore (l' := [(4, .int 0), (3, .int 8192), (0, .ref (ω.2.2 17)), (1, .int a0), (2, .int a1)]) dX3_leastReach_5 rfl (rj_bl rfl) rfl ?_
  refine rj_sub (l' := [(0, .ref (ω.2.2 17)), (1, .int a0), (2, .int a1), (3, .int 8192), (4, .int (nI 0))]) [2, 3, 4, 1, 0] rfl ?_
  refine lX3_leastReach_7 hω μ a0 a1     4 0 8192 rfl ?_
  refine rj_iload_n 3 dX3_leastReach_63 rfl rfl ?_
  exact rj_iret dX3_leastReach_64 rfl (Nat.le_of_ble_eq_true rfl) (Nat.le_of_ble_eq_true rfl) ⟨(by unfold fX3_leastReach; rfl), rfl, rfl⟩
theorem hSX3_roomFor : yX3_roomFor.cls ≠ "java/lang/invoke/MethodHandle" ∧ yX3_roomFor.cls ≠ "java/lang/invoke/VarHandle" ∧ (parseMethodDescriptor yX3_roomFor.desc).map (fun d => d.parameters.length) = some 2 := by decide +kernel
theorem hVX3_roomFor : yX3_roomFor.cls = RX3 ∧ yX3_roomFor.cls ≠ "java/lang/invoke/MethodHandle" ∧ yX3_roomFor.cls ≠ "java/lang/invoke/VarHandle" ∧ (parseMethodDescriptor yX3_roomFor.desc).map (fun d => d.parameters.length) = some 2 := by decide +kernel
theorem vX3_roomFor_3 : ∀ w ∈ u_ws RX3 TX3 3, w ∈ wsX3_roomFor := by decide +kernel
theorem kX3_roomFor_9 : Cond.fieldLink RX3 9 (TX3 0).1 (TX3 0).2.1 (TX3 0).2.2.1 ∈ wsX3_roomFor := by decide +kernel
theorem jX3_roomFor_47_0 : Cond.methodLink RX3 47 Lib.Math.max.name ∈ wsX3_roomFor := by decide +kernel
theorem jX3_roomFor_47_1 : Cond.static Lib.Math.max.name ∈ wsX3_roomFor := by decide +kernel
theorem jX3_roomFor_47_2 : Cond.initialized "java/lang/Math" ∈ wsX3_roomFor := by decide +kernel
theorem jX3_roomFor_47_3 : Cond.code Lib.Math.max.name Lib.Math.max.code 2 (some .int) ∈ wsX3_roomFor := by decide +kernel
def bX3_roomFor_5 (μ : rj_M) (a0 : Int32) (a1 : Int32) (j5 : Nat) (s5 : Int32) : Int32 := (s5 + ((μ.1 18 (nI j5).toNatClampNeg) * (if 0 < (a1 - (fX3_leastReach μ (nI j5) a0)) then (a1 - (fX3_leastReach μ (nI j5) a0)) else 0)))
set_option maxHeartbeats 4000000 in
set_option maxRecDepth 100000 in
theorem lX3_roomFor_5 {g : rj_G} {ω : rj_W} (hω : rj_ok ω) (μ : rj_M) (a0 : Int32) (a1 : Int32)     {F : rj_F} : ∀ (r j : Nat) (s : Int32), j + r = 3 → (rj_R g RX3 cX3_roomFor 5 (some .int) wsX3_roomFor [] (rj_rm 2 0) F 0 ω μ [(0, .ref (ω.2.2 17)), (1, .int a0), (2, .int a1), (3, .int (rj_fo (bX3_roomFor_5 μ a0 a1) r j s)), (4, .int (nI 3))] 41 []) → rj_R g RX3 cX3_roomFor 5 (some .int) wsX3_roomFor [] (rj_rm 2 0) F 0 ω μ [(0, .ref (ω.2.2 17)), (1, .int a0), (2, .int a1), (3, .int s), (4, .int (nI j))] 5 [] := by
  intro r
  induction r with
  | zero =>
    intro j s hj K
    have e0 : j = 3 := by omega
    have hge : 3 ≤ nI j := by
      rw [e0]
      exact Int32.le_refl _
    refine rj_iload 4 dX3_roomFor_5 rfl rfl ?_
    refine rj_iconst (v := 3) dX3_roomFor_7 rfl (by decide) ?_
    refine rj_icmp_ge dX3_roomFor_8 rfl rfl (fun h2 => ?_) (fun h2 => ?_)
    · have e1 : nI j = nI 3 := by rw [e0]
      rw [e1]
      exact K
    · exact absurd hge h2
  | succ r ih =>
    intro j5 s5 hj K
    have hl5 : j5 < 3 := by omega
    have hg5 : ¬ 3 ≤ nI j5 := nI_ge hl5 (rj_bl rfl)
    refine rj_iload 4 dX3_roomFor_5 rfl rfl ?_
    refine rj_iconst (v := 3) dX3_roomFor_7 rfl (by decide) ?_
    refine rj_icmp_ge dX3_roomFor_8 rfl rfl (fun h1 => ?_) (fun h1 => ?_)
    · exact absurd h1 hg5
    · refine rj_iload_n 3 dX3_roomFor_11 rfl rfl ?_
      refine rj_aload_n 0 dX3_roomFor_12 rfl rfl ?_
      refine rj_getR (C0 := RX3) (T := TX3) (N := 3) (j := 0) (r := 18) dX3_roomFor_13 rfl vX3_roomFor_3 rfl (rj_lt hω (k := 17) rfl) (rj_sh hω ly_17) (by decide) kX3_roomFor_9 rfl ?_
      refine rj_iload 4 dX3_roomFor_16 rfl rfl ?_
      refine rj_iald dX3_roomFor_18 rfl (rj_lt hω (k := 18) rfl) (rj_sh hω ly_18) (vp_in_nI hl5 (rj_bl rfl)) ?_
      refine rj_iconst (v := 0) dX3_roomFor_19 rfl (by decide) ?_
      refine rj_iload_n 2 dX3_roomFor_20 rfl rfl ?_
      refine rj_aload_n 0 dX3_roomFor_21 rfl rfl ?_
      refine rj_iload 4 dX3_roomFor_22 rfl rfl ?_
      refine rj_iload_n 1 dX3_roomFor_24 rfl rfl ?_
      refine rj_cV (rest := [.int a1, .int 0, .int (μ.1 18 (nI j5).toNatClampNeg), .int s5]) (sX3_leastReach (g := g) (ω := ω) hω μ (nI j5) a0  ) gX3_roomFor_X3_leastReach (rj_lt hω (k := 17) rfl) (rj_sh hω ly_17) rfl rfl hVX3_leastReach ⟨Nat.le_of_ble_eq_true rfl, Nat.le_of_ble_eq_true rfl⟩ dX3_roomFor_25 rfl rfl rfl (Nat.le_of_ble_eq_true rfl) rfl (Nat.le_of_ble_eq_true rfl) rfl ?_
      refine rj_isub dX3_roomFor_28 rfl ?_
      refine rj_mmax dX3_roomFor_29 rfl jX3_roomFor_47_0 jX3_roomFor_47_1 jX3_roomFor_47_2 jX3_roomFor_47_3 (Nat.le_of_ble_eq_true rfl) (Nat.le_of_ble_eq_true rfl) (Nat.le_of_ble_eq_true rfl) (Nat.le_of_ble_eq_true rfl) ?_
      refine rj_imul dX3_roomFor_32 rfl ?_
      refine rj_iadd dX3_roomFor_33 rfl ?_
      refine rj_istore_n (l' := [(3, .int (s5 + ((μ.1 18 (nI j5).toNatClampNeg) * (if 0 < (a1 - (fX3_leastReach μ (nI j5) a0)) then (a1 - (fX3_leastReach μ (nI j5) a0)) else 0)))), (0, .ref (ω.2.2 17)), (1, .int a0), (2, .int a1), (4, .int (nI j5))]) dX3_roomFor_34 rfl (rj_bl rfl) rfl ?_
      refine rj_iinc (v := nI (j5 + 1)) (l' := [(4, .int (nI (j5 + 1))), (3, .int (s5 + ((μ.1 18 (nI j5).toNatClampNeg) * (if 0 < (a1 - (fX3_leastReach μ (nI j5) a0)) then (a1 - (fX3_leastReach μ (nI j5) a0)) else 0)))), (0, .ref (ω.2.2 17)), (1, .int a0), (2, .int a1)]) 4 dX3_roomFor_35 rfl rfl (nI_succ j5).symm (rj_bl rfl) rfl ?_
      refine rj_goto dX3_roomFor_38 rfl ?_
      have e : bX3_roomFor_5 μ a0 a1 j5 s5 = (s5 + ((μ.1 18 (nI j5).toNatClampNeg) * (if 0 < (a1 - (fX3_leastReach μ (nI j5) a0)) then (a1 - (fX3_leastReach μ (nI j5) a0)) else 0))) := by unfold bX3_roomFor_5; rfl
      exact rj_sub (l' := [(0, .ref (ω.2.2 17)), (1, .int a0), (2, .int a1), (3, .int (s5 + ((μ.1 18 (nI j5).toNatClampNeg) * (if 0 < (a1 - (fX3_leastReach μ (nI j5) a0)) then (a1 - (fX3_leastReach μ (nI j5) a0)) else 0)))), (4, .int (nI (j5 + 1)))]) [2, 3, 4, 1, 0] rfl (ih (j5 + 1) (s5 + ((μ.1 18 (nI j5).toNatClampNeg) * (if 0 < (a1 - (fX3_leastReach μ (nI j5) a0)) then (a1 - (fX3_leastReach μ (nI j5) a0)) else 0))) (by omega) (by rw [rj_fo_s, e] at K; exact K))
def fX3_roomFor (μ : rj_M) (a0 : Int32) (a1 : Int32) : Int32 := (rj_fo (bX3_roomFor_5 μ a0 a1) 3 0 0)
set_option maxHeartbeats 4000000 in
set_option maxRecDepth 100000 in
theorem sX3_roomFor {g : rj_G} {ω : rj_W} (hω : rj_ok ω) (μ : rj_M) (a0 : Int32) (a1 : Int32)   : rj_Sp g yX3_roomFor wsX3_roomFor (rj_rm 2 0) [.ref (ω.2.2 17), .int a0, .int a1] ω μ (rj_D (.inl (some (.int (fX3_roomFor μ a0 a1)))) ω μ) := by
  refine rj_of' (cc := cX3_roomFor) (nL := 5) (ret := (some .int)) (own := RX3) (l0 := [(0, .ref (ω.2.2 17)), (1, .int a0), (2, .int a1)]) rfl (by decide +kernel) rfl (Nat.le_of_ble_eq_true rfl) rfl ?_
  refine rj_iconst (v := 0) dX3_roomFor_0 rfl (by decide) ?_
  refine rj_istore_n (l' := [(3, .int 0), (0, .ref (ω.2.2 17)), (1, .int a0), (2, .int a1)]) dX3_roomFor_1 rfl (rj_bl rfl) rfl ?_
  refine rj_iconst (v := 0) dX3_roomFor_2 rfl (by decide) ?_
  refine rj_istore (l' := [(4, .int 0), (3, .int 0), (0, .ref (ω.2.2 17)), (1, .int a0), (2, .int a1)]) dX3_roomFor_3 rfl (rj_bl rfl) rfl ?_
  refine rj_sub (l' := [(0, .ref (ω.2.2 17)), (1, .int a0), (2, .int a1), (3, .int 0), (4, .int (nI 0))]) [2, 3, 4, 1, 0] rfl ?_
  refine lX3_roomFor_5 hω μ a0 a1     3 0 0 rfl ?_
  refine rj_iload_n 3 dX3_roomFor_41 rfl rfl ?_
  exact rj_iret dX3_roomFor_42 rfl (Nat.le_of_ble_eq_true rfl) (Nat.le_of_ble_eq_true rfl) ⟨(by unfold fX3_roomFor; rfl), rfl, rfl⟩
theorem hSX3_firstTooFull : yX3_firstTooFull.cls ≠ "java/lang/invoke/MethodHandle" ∧ yX3_firstTooFull.cls ≠ "java/lang/invoke/VarHandle" ∧ (parseMethodDescriptor yX3_firstTooFull.desc).map (fun d => d.parameters.length) = some 1 := by decide +kernel
theorem hVX3_firstTooFull : yX3_firstTooFull.cls = RX3 ∧ yX3_firstTooFull.cls ≠ "java/lang/invoke/MethodHandle" ∧ yX3_firstTooFull.cls ≠ "java/lang/invoke/VarHandle" ∧ (parseMethodDescriptor yX3_firstTooFull.desc).map (fun d => d.parameters.length) = some 1 := by decide +kernel
def bX3_firstTooFull_2 (μ : rj_M) (a0 : Int32) (j2 : Nat) (s2 : Unit) : Unit ⊕ Int32 := (if (fX3_crowdOf μ (nI j2)) ≤ (fX3_roomFor μ (nI j2) a0) then .inl () else .inr (nI j2))
set_option maxHeartbeats 4000000 in
set_option maxRecDepth 100000 in
theorem lX3_firstTooFull_2 {g : rj_G} {ω : rj_W} (hω : rj_ok ω) (μ : rj_M) (a0 : Int32)     {P : rj_P} : ∀ (r j : Nat) (s : Unit), j + r = 16 → (∀ z : Unit, rj_ix (bX3_firstTooFull_2 μ a0) r j s = .inl z → rj_R g RX3 cX3_firstTooFull 3 (some .int) wsX3_firstTooFull [] (rj_rm 3 0) (rj_E g (rj_rm 3 0) P) 0 ω μ [(0, .ref (ω.2.2 17)), (1, .int a0), (2, .int (nI 16))] 30 []) → (∀ z : Int32, rj_ix (bX3_firstTooFull_2 μ a0) r j s = .inr z → P (.inl (some (.int z))) ω μ) → rj_R g RX3 cX3_firstTooFull 3 (some .int) wsX3_firstTooFull [] (rj_rm 3 0) (rj_E g (rj_rm 3 0) P) 0 ω μ [(0, .ref (ω.2.2 17)), (1, .int a0), (2, .int (nI j))] 2 [] := by
  intro r
  induction r with
  | zero =>
    intro j s hj K K2
    have e0 : j = 16 := by omega
    have hge : 16 ≤ nI j := by
      rw [e0]
      exact Int32.le_refl _
    refine rj_iload_n 2 dX3_firstTooFull_2 rfl rfl ?_
    refine rj_bipush (v := 16) dX3_firstTooFull_3 rfl (by decide) ?_
    refine rj_icmp_ge dX3_firstTooFull_5 rfl rfl (fun h3 => ?_) (fun h3 => ?_)
    · have e1 : nI j = nI 16 := by rw [e0]
      rw [e1]
      exact K s rfl
    · exact absurd hge h3
  | succ r ih =>
    intro j2 s2 hj K K2
    have hl2 : j2 < 16 := by omega
    have hg2 : ¬ 16 ≤ nI j2 := nI_ge hl2 (rj_bl rfl)
    refine rj_iload_n 2 dX3_firstTooFull_2 rfl rfl ?_
    refine rj_bipush (v := 16) dX3_firstTooFull_3 rfl (by decide) ?_
    refine rj_icmp_ge dX3_firstTooFull_5 rfl rfl (fun h1 => ?_) (fun h1 => ?_)
    · exact absurd h1 hg2
    · refine rj_aload_n 0 dX3_firstTooFull_8 rfl rfl ?_
      refine rj_iload_n 2 dX3_firstTooFull_9 rfl rfl ?_
      refine rj_cV (rest := []) (sX3_crowdOf (g := g) (ω := ω) hω μ (nI j2)  ) gX3_firstTooFull_X3_crowdOf (rj_lt hω (k := 17) rfl) (rj_sh hω ly_17) rfl rfl hVX3_crowdOf ⟨Nat.le_of_ble_eq_true rfl, Nat.le_of_ble_eq_true rfl⟩ dX3_firstTooFull_10 rfl rfl rfl (Nat.le_of_ble_eq_true rfl) rfl (Nat.le_of_ble_eq_true rfl) rfl ?_
      refine rj_aload_n 0 dX3_firstTooFull_13 rfl rfl ?_
      refine rj_iload_n 2 dX3_firstTooFull_14 rfl rfl ?_
      refine rj_iload_n 1 dX3_firstTooFull_15 rfl rfl ?_
      refine rj_cV (rest := [.int (fX3_crowdOf μ (nI j2))]) (sX3_roomFor (g := g) (ω := ω) hω μ (nI j2) a0  ) gX3_firstTooFull_X3_roomFor (rj_lt hω (k := 17) rfl) (rj_sh hω ly_17) rfl rfl hVX3_roomFor ⟨Nat.le_of_ble_eq_true rfl, Nat.le_of_ble_eq_true rfl⟩ dX3_firstTooFull_16 rfl rfl rfl (Nat.le_of_ble_eq_true rfl) rfl (Nat.le_of_ble_eq_true rfl) rfl ?_
      refine rj_icmp_le dX3_firstTooFull_19 rfl rfl (fun h2 => ?_) (fun h2 => ?_)
      · refine rj_iinc (v := nI (j2 + 1)) (l' := [(2, .int (nI (j2 + 1))), (0, .ref (ω.2.2 17)), (1, .int a0)]) 2 dX3_firstTooFull_24 rfl rfl (nI_succ j2).symm (rj_bl rfl) rfl ?_
        refine rj_goto dX3_firstTooFull_27 rfl ?_
        have e : bX3_firstTooFull_2 μ a0 j2 s2 = .inl () := by unfold bX3_firstTooFull_2; rw [if_pos h2]; try rfl
        exact rj_sub (l' := [(0, .ref (ω.2.2 17)), (1, .int a0), (2, .int (nI (j2 + 1)))]) [1, 2, 0] rfl (ih (j2 + 1) () (by omega) (fun z hz => K z (by rw [rj_ix_l e]; exact hz)) (fun z hz => K2 z (by rw [rj_ix_l e]; exact hz)))
      · refine rj_iload_n 2 dX3_firstTooFull_22 rfl rfl ?_
        have e : bX3_firstTooFull_2 μ a0 j2 s2 = .inr (nI j2) := by unfold bX3_firstTooFull_2; rw [if_neg h2]; try rfl
        exact rj_iret dX3_firstTooFull_23 rfl (Nat.le_of_ble_eq_true rfl) (Nat.le_of_ble_eq_true rfl) (K2 (nI j2) (rj_ix_r e))
def fX3_firstTooFull (μ : rj_M) (a0 : Int32) : Int32 := (Sum.elim (fun z2 => 0) (fun w2 => w2) (rj_ix (bX3_firstTooFull_2 μ a0) 15 1 ()))
set_option maxHeartbeats 4000000 in
set_option maxRecDepth 100000 in
theorem sX3_firstTooFull {g : rj_G} {ω : rj_W} (hω : rj_ok ω) (μ : rj_M) (a0 : Int32)   : rj_Sp g yX3_firstTooFull wsX3_firstTooFull (rj_rm 3 0) [.ref (ω.2.2 17), .int a0] ω μ (rj_D (.inl (some (.int (fX3_firstTooFull μ a0)))) ω μ) := by
  refine rj_of' (cc := cX3_firstTooFull) (nL := 3) (ret := (some .int)) (own := RX3) (l0 := [(0, .ref (ω.2.2 17)), (1, .int a0)]) rfl (by decide +kernel) rfl (Nat.le_of_ble_eq_true rfl) rfl ?_
  refine rj_iconst (v := 1) dX3_firstTooFull_0 rfl (by decide) ?_
  refine rj_istore_n (l' := [(2, .int 1), (0, .ref (ω.2.2 17)), (1, .int a0)]) dX3_firstTooFull_1 rfl (rj_bl rfl) rfl ?_
  refine rj_sub (l' := [(0, .ref (ω.2.2 17)), (1, .int a0), (2, .int (nI 1))]) [1, 2, 0] rfl ?_
  refine lX3_firstTooFull_2 hω μ a0     15 1 () rfl (fun z2 hz2 => ?_) (fun w2 hw2 => ?_)
  · refine rj_iconst (v := 0) dX3_firstTooFull_30 rfl (by decide) ?_
    exact rj_iret dX3_firstTooFull_31 rfl (Nat.le_of_ble_eq_true rfl) (Nat.le_of_ble_eq_true rfl) ⟨(by unfold fX3_firstTooFull; rw [hz2]; simp only [Sum.elim_inl]; try rfl), rfl, rfl⟩
  · exact ⟨(by unfold fX3_firstTooFull; rw [hw2]; simp only [Sum.elim_inr]; try rfl), rfl, rfl⟩
