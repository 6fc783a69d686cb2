theorem hSX12_walkOf : yX12_walkOf.cls ≠ "java/lang/invoke/MethodHandle" ∧ yX12_walkOf.cls ≠ "java/lang/invoke/VarHandle" ∧ (parseMethodDescriptor yX12_walkOf.desc).map (fun d => d.parameters.length) = some 2 := by decide +kernel
theorem hVX12_walkOf : yX12_walkOf.cls = RX12 ∧ yX12_walkOf.cls ≠ "java/lang/invoke/MethodHandle" ∧ yX12_walkOf.cls ≠ "java/lang/invoke/VarHandle" ∧ (parseMethodDescriptor yX12_walkOf.desc).map (fun d => d.parameters.length) = some 2 := by decide +kernel
theorem vX12_walkOf_12 : ∀ w ∈ u_ws RX12 TX12 16, w ∈ wsX12_walkOf := by decide +kernel
theorem kX12_walkOf_9 : Cond.fieldLink RX12 9 (TX12 1).1 (TX12 1).2.1 (TX12 1).2.2.1 ∈ wsX12_walkOf := by decide +kernel
theorem jX12_walkOf_92_0 : Cond.methodLink RX12 92 Lib.Math.min.name ∈ wsX12_walkOf := by decide +kernel
theorem jX12_walkOf_92_1 : Cond.static Lib.Math.min.name ∈ wsX12_walkOf := by decide +kernel
theorem jX12_walkOf_92_2 : Cond.initialized "java/lang/Math" ∈ wsX12_walkOf := by decide +kernel
theorem jX12_walkOf_92_3 : Cond.code Lib.Math.min.name Lib.Math.min.code 2 (some .int) ∈ wsX12_walkOf := by decide +kernel
def bX12_walkOf_35 (μ : rj_M) (a0 : Int32) (a1 : Int32) (j26 : Nat) (s26 : Int32) (j35 : Nat) (s35 : Int32) : Int32 := (if a0 = a1 then s35 else (if (((μ.1 396 ((7 + (4 * a0)) + (nI j26)).toNatClampNeg) + (μ.1 396 ((7 + (4 * (nI j26))) + (nI j35)).toNatClampNeg)) + (μ.1 396 ((7 + (4 * (nI j35))) + a1).toNatClampNeg)) < s35 then (((μ.1 396 ((7 + (4 * a0)) + (nI j26)).toNatClampNeg) + (μ.1 396 ((7 + (4 * (nI j26))) + (nI j35)).toNatClampNeg)) + (μ.1 396 ((7 + (4 * (nI j35))) + a1).toNatClampNeg)) else s35))
def qX12_walkOf_35 (μ : rj_M) (a0 : Int32) (a1 : Int32) (j26 : Nat) (s26 : Int32) (j35 : Nat) (s35 : Int32) : Prop := (((a0 = a1) → True) ∧ ((¬ (a0 = a1)) → (vp_in ((7 + (4 * a0)) + (nI j26)) 625 ∧ vp_in ((7 + (4 * (nI j35))) + a1) 625 ∧ True)))
set_option maxHeartbeats 4000000 in
set_option maxRecDepth 100000 in
theorem lX12_walkOf_35 {g : rj_G} {ω : rj_W} (hω : rj_ok ω) (μ : rj_M) (a0 : Int32) (a1 : Int32) (j26 : Nat) (s26 : Int32)   (hl26 : j26 < 4)  {F : rj_F} : ∀ (r j : Nat) (s : Int32), j + r = 4 → (True → ra_fo (qX12_walkOf_35 μ a0 a1 j26 s26) (bX12_walkOf_35 μ a0 a1 j26 s26) r j s) → (rj_R g RX12 cX12_walkOf 6 (some .int) wsX12_walkOf [] (rj_rm 1 0) F 0 ω μ [(0, .ref (ω.2.2 395)), (1, .int a0), (2, .int a1), (3, .int (rj_fo (bX12_walkOf_35 μ a0 a1 j26 s26) r j s)), (4, .int (nI j26)), (5, .int (nI 4))] 102 []) → rj_R g RX12 cX12_walkOf 6 (some .int) wsX12_walkOf [] (rj_rm 1 0) F 0 ω μ [(0, .ref (ω.2.2 395)), (1, .int a0), (2, .int a1), (3, .int s), (4, .int (nI j26)), (5, .int (nI j))] 35 [] := by
  intro r
  induction r with
  | zero =>
    intro j s hj hq0 K
    have e0 : j = 4 := by omega
    have hge : 4 ≤ nI j := by
      rw [e0]
      exact Int32.le_refl _
    refine rj_iload 5 dX12_walkOf_35 rfl rfl ?_
    refine rj_iconst (v := 4) dX12_walkOf_37 rfl (by decide) ?_
    refine rj_icmp_ge dX12_walkOf_38 rfl rfl (fun h5 => ?_) (fun h5 => ?_)
    · have e1 : nI j = nI 4 := by rw [e0]
      rw [e1]
      exact K
    · exact absurd hge h5
  | succ r ih =>
    intro j35 s35 hj hq0 K
    have hl35 : j35 < 4 := by omega
    have hg35 : ¬ 4 ≤ nI j35 := nI_ge hl35 (rj_bl rfl)
    have hqa := ra_fo_q (hq0 True.intro)
    unfold qX12_walkOf_35 at hqa
    refine rj_iload 5 dX12_walkOf_35 rfl rfl ?_
    refine rj_iconst (v := 4) dX12_walkOf_37 rfl (by decide) ?_
    refine rj_icmp_ge dX12_walkOf_38 rfl rfl (fun h3 => ?_) (fun h3 => ?_)
    · exact absurd h3 hg35
    · refine rj_iload_n 1 dX12_walkOf_41 rfl rfl ?_
      refine rj_iload_n 2 dX12_walkOf_42 rfl rfl ?_
      refine rj_icmp_eq dX12_walkOf_43 rfl rfl (fun h4 => ?_) (fun h4 => ?_)
      · skip
        refine rj_iinc (v := nI (j35 + 1)) (l' := [(5, .int (nI (j35 + 1))), (0, .ref (ω.2.2 395)), (1, .int a0), (2, .int a1), (3, .int s35), (4, .int (nI j26))]) 5 dX12_walkOf_96 rfl rfl (nI_succ j35).symm (rj_bl rfl) rfl ?_
        refine rj_goto dX12_walkOf_99 rfl ?_
        have e : bX12_walkOf_35 μ a0 a1 j26 s26 j35 s35 = s35 := by unfold bX12_walkOf_35; rw [if_pos h4]; try rfl
        exact rj_sub (l' := [(0, .ref (ω.2.2 395)), (1, .int a0), (2, .int a1), (3, .int s35), (4, .int (nI j26)), (5, .int (nI (j35 + 1)))]) [1, 2, 3, 4, 5, 0] rfl (ih (j35 + 1) s35 (by omega) (fun _ => ra_fo_n (hq0 True.intro) e) (by rw [rj_fo_s, e] at K; exact K))
      · have hq3 := (And.right hqa) h4
        refine rj_iload_n 3 dX12_walkOf_46 rfl rfl ?_
        refine rj_aload_n 0 dX12_walkOf_47 rfl rfl ?_
        refine rj_getR (C0 := RX12) (T := TX12) (N := 16) (j := 1) (r := 396) dX12_walkOf_48 rfl vX12_walkOf_12 rfl (rj_lt hω (k := 395) rfl) (rj_sh hω ly_395) (by decide) kX12_walkOf_9 rfl ?_
        refine rj_bipush (v := 7) dX12_walkOf_51 rfl (by decide) ?_
        refine rj_iconst (v := 4) dX12_walkOf_53 rfl (by decide) ?_
        refine rj_iload_n 1 dX12_walkOf_54 rfl rfl ?_
        refine rj_imul dX12_walkOf_55 rfl ?_
        refine rj_iadd dX12_walkOf_56 rfl ?_
        refine rj_iload 4 dX12_walkOf_57 rfl rfl ?_
        refine rj_iadd dX12_walkOf_59 rfl ?_
        refine rj_iald dX12_walkOf_60 rfl (rj_lt hω (k := 396) rfl) (rj_sh hω ly_396) (And.left hq3) ?_
        refine rj_aload_n 0 dX12_walkOf_61 rfl rfl ?_
        refine rj_getR (C0 := RX12) (T := TX12) (N := 16) (j := 1) (r := 396) dX12_walkOf_62 rfl vX12_walkOf_12 rfl (rj_lt hω (k := 395) rfl) (rj_sh hω ly_395) (by decide) kX12_walkOf_9 rfl ?_
        refine rj_bipush (v := 7) dX12_walkOf_65 rfl (by decide) ?_
        refine rj_iconst (v := 4) dX12_walkOf_67 rfl (by decide) ?_
        refine rj_iload 4 dX12_walkOf_68 rfl rfl ?_
        refine rj_imul dX12_walkOf_70 rfl ?_
        refine rj_iadd dX12_walkOf_71 rfl ?_
        refine rj_iload 5 dX12_walkOf_72 rfl rfl ?_
        refine rj_iadd dX12_walkOf_74 rfl ?_
        refine rj_iald dX12_walkOf_75 rfl (rj_lt hω (k := 396) rfl) (rj_sh hω ly_396) (rj_vle (rj_vadd (N := 23) (rj_vadd (N := 20) (vp_in_nI (n := 7) (N := 8) (rj_bl rfl) (rj_bl rfl)) (rj_vmul (k := 4) (N := 13) (vp_in_nI (N := 4) hl26 (rj_bl rfl)) rfl rfl) rfl rfl) (vp_in_nI (N := 4) hl35 (rj_bl rfl)) rfl rfl) rfl) ?_
        refine rj_iadd dX12_walkOf_76 rfl ?_
        refine rj_aload_n 0 dX12_walkOf_77 rfl rfl ?_
        refine rj_getR (C0 := RX12) (T := TX12) (N := 16) (j := 1) (r := 396) dX12_walkOf_78 rfl vX12_walkOf_12 rfl (rj_lt hω (k := 395) rfl) (rj_sh hω ly_395) (by decide) kX12_walkOf_9 rfl ?_
        refine rj_bipush (v := 7) dX12_walkOf_81 rfl (by decide) ?_
        refine rj_iconst (v := 4) dX12_walkOf_83 rfl (by decide) ?_
        refine rj_iload 5 dX12_walkOf_84 rfl rfl ?_
        refine rj_imul dX12_walkOf_86 rfl ?_
        refine rj_iadd dX12_walkOf_87 rfl ?_
        refine rj_iload_n 2 dX12_walkOf_88 rfl rfl ?_
        refine rj_iadd dX12_walkOf_89 rfl ?_
        refine rj_iald dX12_walkOf_90 rfl (rj_lt hω (k := 396) rfl) (rj_sh hω ly_396) (And.left (And.right hq3)) ?_
        refine rj_iadd dX12_walkOf_91 rfl ?_
        refine rj_mmin dX12_walkOf_92 rfl jX12_walkOf_92_0 jX12_walkOf_92_1 jX12_walkOf_92_2 jX12_walkOf_92_3 (Nat.le_of_ble_eq_true rfl) (Nat.le_of_ble_eq_true rfl) (Nat.le_of_ble_eq_true rfl) (Nat.le_of_ble_eq_true rfl) ?_
        refine rj_istore_n (l' := [(3, .int (if (((μ.1 396 ((7 + (4 * a0)) + (nI j26)).toNatClampNeg) + (μ.1 396 ((7 + (4 * (nI j26))) + (nI j35)).toNatClampNeg)) + (μ.1 396 ((7 + (4 * (nI j35))) + a1).toNatClampNeg)) < s35 then (((μ.1 396 ((7 + (4 * a0)) + (nI j26)).toNatClampNeg) + (μ.1 396 ((7 + (4 * (nI j26))) + (nI j35)).toNatClampNeg)) + (μ.1 396 ((7 + (4 * (nI j35))) + a1).toNatClampNeg)) else s35)), (0, .ref (ω.2.2 395)), (1, .int a0), (2, .int a1), (4, .int (nI j26)), (5, .int (nI j35))]) dX12_walkOf_95 rfl (rj_bl rfl) rfl ?_
        refine rj_iinc (v := nI (j35 + 1)) (l' := [(5, .int (nI (j35 + 1))), (3, .int (if (((μ.1 396 ((7 + (4 * a0)) + (nI j26)).toNatClampNeg) + (μ.1 396 ((7 + (4 * (nI j26))) + (nI j35)).toNatClampNeg)) + (μ.1 396 ((7 + (4 * (nI j35))) + a1).toNatClampNeg)) < s35 then (((μ.1 396 ((7 + (4 * a0)) + (nI j26)).toNatClampNeg) + (μ.1 396 ((7 + (4 * (nI j26))) + (nI j35)).toNatClampNeg)) + (μ.1 396 ((7 + (4 * (nI j35))) + a1).toNatClampNeg)) else s35)), (0, .ref (ω.2.2 395)), (1, .int a0), (2, .int a1), (4, .int (nI j26))]) 5 dX12_walkOf_96 rfl rfl (nI_succ j35).symm (rj_bl rfl) rfl ?_
        refine rj_goto dX12_walkOf_99 rfl ?_
        have e : bX12_walkOf_35 μ a0 a1 j26 s26 j35 s35 = (if (((μ.1 396 ((7 + (4 * a0)) + (nI j26)).toNatClampNeg) + (μ.1 396 ((7 + (4 * (nI j26))) + (nI j35)).toNatClampNeg)) + (μ.1 396 ((7 + (4 * (nI j35))) + a1).toNatClampNeg)) < s35 then (((μ.1 396 ((7 + (4 * a0)) + (nI j26)).toNatClampNeg) + (μ.1 396 ((7 + (4 * (nI j26))) + (nI j35)).toNatClampNeg)) + (μ.1 396 ((7 + (4 * (nI j35))) + a1).toNatClampNeg)) else s35) := by unfold bX12_walkOf_35; rw [if_neg h4]; try rfl
        exact rj_sub (l' := [(0, .ref (ω.2.2 395)), (1, .int a0), (2, .int a1), (3, .int (if (((μ.1 396 ((7 + (4 * a0)) + (nI j26)).toNatClampNeg) + (μ.1 396 ((7 + (4 * (nI j26))) + (nI j35)).toNatClampNeg)) + (μ.1 396 ((7 + (4 * (nI j35))) + a1).toNatClampNeg)) < s35 then (((μ.1 396 ((7 + (4 * a0)) + (nI j26)).toNatClampNeg) + (μ.1 396 ((7 + (4 * (nI j26))) + (nI j35)).toNatClampNeg)) + (μ.1 396 ((7 + (4 * (nI j35))) + a1).toNatClampNeg)) else s35)), (4, .int (nI j26)), (5, .int (nI (j35 + 1)))]) [2, 3, 4, 1, 5, 0] rfl (ih (j35 + 1) (if (((μ.1 396 ((7 + (4 * a0)) + (nI j26)).toNatClampNeg) + (μ.1 396 ((7 + (4 * (nI j26))) + (nI j35)).toNatClampNeg)) + (μ.1 396 ((7 + (4 * (nI j35))) + a1).toNatClampNeg)) < s35 then (((μ.1 396 ((7 + (4 * a0)) + (nI j26)).toNatClampNeg) + (μ.1 396 ((7 + (4 * (nI j26))) + (nI j35)).toNatClampNeg)) + (μ.1 396 ((7 + (4 * (nI j35))) + a1).toNatClampNeg)) else s35) (by omega) (fun _ => ra_fo_n (hq0 True.intro) e) (by rw [rj_fo_s, e] at K; exact K))
def bX12_walkOf_26 (μ : rj_M) (a0 : Int32) (a1 : Int32) (j26 : Nat) (s26 : Int32) : Int32 := (rj_fo (bX12_walkOf_35 μ a0 a1 j26 s26) 4 0 s26)
def qX12_walkOf_26 (μ : rj_M) (a0 : Int32) (a1 : Int32) (j26 : Nat) (s26 : Int32) : Prop := ((True → ra_fo (qX12_walkOf_35 μ a0 a1 j26 s26) (bX12_walkOf_35 μ a0 a1 j26 s26) 4 0 s26) ∧ True)
set_option maxHeartbeats 4000000 in
set_option maxRecDepth 100000 in
theorem lX12_walkOf_26 {g : rj_G} {ω : rj_W} (hω : rj_ok ω) (μ : rj_M) (a0 : Int32) (a1 : Int32)    (hp_a0 : vp_in a0 4) (hp_a1 : vp_in a1 4) {F : rj_F} : ∀ (r j : Nat) (s : Int32), j + r = 4 → (True → ra_fo (qX12_walkOf_26 μ a0 a1) (bX12_walkOf_26 μ a0 a1) r j s) → (rj_R g RX12 cX12_walkOf 6 (some .int) wsX12_walkOf [] (rj_rm 1 0) F 0 ω μ [(0, .ref (ω.2.2 395)), (1, .int a0), (2, .int a1), (3, .int (rj_fo (bX12_walkOf_26 μ a0 a1) r j s)), (4, .int (nI 4))] 108 []) → rj_R g RX12 cX12_walkOf 6 (some .int) wsX12_walkOf [] (rj_rm 1 0) F 0 ω μ [(0, .ref (ω.2.2 395)), (1, .int a0), (2, .int a1), (3, .int s), (4, .int (nI j))] 26 [] := by
  intro r
  induction r with
  | zero =>
    intro j s hj hq0 K
    have e0 : j = 4 := by omega
    have hge : 4 ≤ nI j := by
      rw [e0]
      exact Int32.le_refl _
    refine rj_iload 4 dX12_walkOf_26 rfl rfl ?_
    refine rj_iconst (v := 4) dX12_walkOf_28 rfl (by decide) ?_
    refine rj_icmp_ge dX12_walkOf_29 rfl rfl (fun h6 => ?_) (fun h6 => ?_)
    · have e1 : nI j = nI 4 := by rw [e0]
      rw [e1]
      exact K
    · exact absurd hge h6
  | succ r ih =>
    intro j26 s26 hj hq0 K
    have hl26 : j26 < 4 := by omega
    have hg26 : ¬ 4 ≤ nI j26 := nI_ge hl26 (rj_bl rfl)
    have hqa := ra_fo_q (hq0 True.intro)
    unfold qX12_walkOf_26 at hqa
    refine rj_iload 4 dX12_walkOf_26 rfl rfl ?_
    refine rj_iconst (v := 4) dX12_walkOf_28 rfl (by decide) ?_
    refine rj_icmp_ge dX12_walkOf_29 rfl rfl (fun h2 => ?_) (fun h2 => ?_)
    · exact absurd h2 hg26
    · refine rj_iconst (v := 0) dX12_walkOf_32 rfl (by decide) ?_
      refine rj_istore (l' := [(5, .int 0), (0, .ref (ω.2.2 395)), (1, .int a0), (2, .int a1), (3, .int s26), (4, .int (nI j26))]) dX12_walkOf_33 rfl (rj_bl rfl) rfl ?_
      refine rj_sub (l' := [(0, .ref (ω.2.2 395)), (1, .int a0), (2, .int a1), (3, .int s26), (4, .int (nI j26)), (5, .int (nI 0))]) [1, 2, 3, 4, 5, 0] rfl ?_
      refine lX12_walkOf_35 hω μ a0 a1 j26 s26   hl26  4 0 s26 rfl (And.left hqa) ?_
      refine rj_iinc (v := nI (j26 + 1)) (l' := [(4, .int (nI (j26 + 1))), (0, .ref (ω.2.2 395)), (1, .int a0), (2, .int a1), (3, .int (rj_fo (bX12_walkOf_35 μ a0 a1 j26 s26) 4 0 s26)), (5, .int (nI 4))]) 4 dX12_walkOf_102 rfl rfl (nI_succ j26).symm (rj_bl rfl) rfl ?_
      refine rj_goto dX12_walkOf_105 rfl ?_
      have e : bX12_walkOf_26 μ a0 a1 j26 s26 = (rj_fo (bX12_walkOf_35 μ a0 a1 j26 s26) 4 0 s26) := by unfold bX12_walkOf_26; rfl
      exact rj_sub (l' := [(0, .ref (ω.2.2 395)), (1, .int a0), (2, .int a1), (3, .int (rj_fo (bX12_walkOf_35 μ a0 a1 j26 s26) 4 0 s26)), (4, .int (nI (j26 + 1)))]) [1, 2, 3, 4, 0] rfl (ih (j26 + 1) (rj_fo (bX12_walkOf_35 μ a0 a1 j26 s26) 4 0 s26) (by omega) (fun _ => ra_fo_n (hq0 True.intro) e) (by rw [rj_fo_s, e] at K; exact K))
def fX12_walkOf (μ : rj_M) (a0 : Int32) (a1 : Int32) : Int32 := (if a0 = a1 then (rj_fo (bX12_walkOf_26 μ a0 a1) 4 0 0) else (rj_fo (bX12_walkOf_26 μ a0 a1) 4 0 (μ.1 396 ((7 + (4 * a0)) + a1).toNatClampNeg)))
def qX12_walkOf (μ : rj_M) (a0 : Int32) (a1 : Int32) : Prop := (((a0 = a1) → ((True → ra_fo (qX12_walkOf_26 μ a0 a1) (bX12_walkOf_26 μ a0 a1) 4 0 0) ∧ True)) ∧ ((¬ (a0 = a1)) → ((True → ra_fo (qX12_walkOf_26 μ a0 a1) (bX12_walkOf_26 μ a0 a1) 4 0 (μ.1 396 ((7 + (4 * a0)) + a1).toNatClampNeg)) ∧ True)))
set_option maxHeartbeats 40000000 in
set_option maxRecDepth 100000 in
theorem sX12_walkOf {g : rj_G} {ω : rj_W} (hω : rj_ok ω) (μ : rj_M) (a0 : Int32) (a1 : Int32)  (hp_a0 : vp_in a0 4) (hp_a1 : vp_in a1 4)  (hq : qX12_walkOf μ a0 a1) : rj_Sp g yX12_walkOf wsX12_walkOf (rj_rm 1 0) [.ref (ω.2.2 395), .int a0, .int a1] ω μ (rj_D (.inl (some (.int (fX12_walkOf μ a0 a1)))) ω μ) := by
  have hqa := hq
  unfold qX12_walkOf at hqa
  refine rj_of' (cc := cX12_walkOf) (nL := 6) (ret := (some .int)) (own := RX12) (l0 := [(0, .ref (ω.2.2 395)), (1, .int a0), (2, .int a1)]) rfl (by decide +kernel) rfl (Nat.le_of_ble_eq_true rfl) rfl ?_
  refine rj_iload_n 1 dX12_walkOf_0 rfl rfl ?_
  refine rj_iload_n 2 dX12_walkOf_1 rfl rfl ?_
  refine rj_icmp_ne dX12_walkOf_2 rfl rfl (fun h1 => ?_) (fun h1 => ?_)
  · have hq1 := (And.right hqa) h1
    refine rj_aload_n 0 dX12_walkOf_9 rfl rfl ?_
    refine rj_getR (C0 := RX12) (T := TX12) (N := 16) (j := 1) (r := 396) dX12_walkOf_10 rfl vX12_walkOf_12 rfl (rj_lt hω (k := 395) rfl) (rj_sh hω ly_395) (by decide) kX12_walkOf_9 rfl ?_
    refine rj_bipush (v := 7) dX12_walkOf_13 rfl (by decide) ?_
    refine rj_iconst (v := 4) dX12_walkOf_15 rfl (by decide) ?_
    refine rj_iload_n 1 dX12_walkOf_16 rfl rfl ?_
    refine rj_imul dX12_walkOf_17 rfl ?_
    refine rj_iadd dX12_walkOf_18 rfl ?_
    refine rj_iload_n 2 dX12_walkOf_19 rfl rfl ?_
    refine rj_iadd dX12_walkOf_20 rfl ?_
    refine rj_iald dX12_walkOf_21 rfl (rj_lt hω (k := 396) rfl) (rj_sh hω ly_396) (rj_vle (rj_vadd (N := 23) (rj_vadd (N := 20) (vp_in_nI (n := 7) (N := 8) (rj_bl rfl) (rj_bl rfl)) (rj_vmul (k := 4) (N := 13) hp_a0 rfl rfl) rfl rfl) hp_a1 rfl rfl) rfl) ?_
    refine rj_istore_n (l' := [(3, .int (μ.1 396 ((7 + (4 * a0)) + a1).toNatClampNeg)), (0, .ref (ω.2.2 395)), (1, .int a0), (2, .int a1)]) dX12_walkOf_22 rfl (rj_bl rfl) rfl ?_
    refine rj_iconst (v := 0) dX12_walkOf_23 rfl (by decide) ?_
    refine rj_istore (l' := [(4, .int 0), (3, .int (μ.1 396 ((7 + (4 * a0)) + a1).toNatClampNeg)), (0, .ref (ω.2.2 395)), (1, .int a0), (2, .int a1)]) dX12_walkOf_24 rfl (rj_bl rfl) rfl ?_
    refine rj_sub (l' := [(0, .ref (ω.2.2 395)), (1, .int a0), (2, .int a1), (3, .int (μ.1 396 ((7 + (4 * a0)) + a1).toNatClampNeg)), (4, .int (nI 0))]) [2, 3, 4, 1, 0] rfl ?_
    refine lX12_walkOf_26 hω μ a0 a1    hp_a0 hp_a1 4 0 (μ.1 396 ((7 + (4 * a0)) + a1).toNatClampNeg) rfl (And.left hq1) ?_
    refine rj_iload_n 3 dX12_walkOf_108 rfl rfl ?_
    exact rj_iret dX12_walkOf_109 rfl (Nat.le_of_ble_eq_true rfl) (Nat.le_of_ble_eq_true rfl) ⟨(by unfold fX12_walkOf; rw [if_neg h1]; try rfl), rfl, rfl⟩
  · have hq4 := (And.left hqa) h1
    refine rj_iconst (v := 0) dX12_walkOf_5 rfl (by decide) ?_
    refine rj_goto dX12_walkOf_6 rfl ?_
    refine rj_istore_n (l' := [(3, .int 0), (0, .ref (ω.2.2 395)), (1, .int a0), (2, .int a1)]) dX12_walkOf_22 rfl (rj_bl rfl) rfl ?_
    refine rj_iconst (v := 0) dX12_walkOf_23 rfl (by decide) ?_
    refine rj_istore (l' := [(4, .int 0), (3, .int 0), (0, .ref (ω.2.2 395)), (1, .int a0), (2, .int a1)]) dX12_walkOf_24 rfl (rj_bl rfl) rfl ?_
    refine rj_sub (l' := [(0, .ref (ω.2.2 395)), (1, .int a0), (2, .int a1), (3, .int 0), (4, .int (nI 0))]) [2, 3, 4, 1, 0] rfl ?_
    refine lX12_walkOf_26 hω μ a0 a1    hp_a0 hp_a1 4 0 0 rfl (And.left hq4) ?_
    refine rj_iload_n 3 dX12_walkOf_108 rfl rfl ?_
    exact rj_iret dX12_walkOf_109 rfl (Nat.le_of_ble_eq_true rfl) (Nat.le_of_ble_eq_true rfl) ⟨(by unfold fX12_walkOf; rw [if_pos h1]; try rfl), rfl, rfl⟩
theorem hSX12_setWay : yX12_setWay.cls ≠ "java/lang/invoke/MethodHandle" ∧ yX12_setWay.cls ≠ "java/lang/invoke/VarHandle" ∧ (parseMethodDescriptor yX12_setWay.desc).map (fun d => d.parameters.length) = some 3 := by decide +kernel
theorem hVX12_setWay : yX12_setWay.cls = RX12 ∧ yX12_setWay.cls ≠ "java/lang/invoke/MethodHandle" ∧ yX12_setWay.cls ≠ "java/lang/invoke/VarHandle" ∧ (parseMethodDescriptor yX12_setWay.desc).map (fun d => d.parameters.length) = some 3 := by decide +kernel
theorem vX12_setWay_12 : ∀ w ∈ u_ws RX12 TX12 16, w ∈ wsX12_setWay := by decide +kernel
theorem kX12_setWay_9 : Cond.fieldLink RX12 9 (TX12 1).1 (TX12 1).2.1 (TX12 1).2.2.1 ∈ wsX12_setWay := by decide +kernel
def fX12_setWay (μ : rj_M) (a0 : Int32) (a1 : Int32) (a2 : Int32) : Int32 := (if (fX12_isStage μ a0) = 0 then 0 else (if (fX12_isStage μ a1) = 0 then 0 else (if a0 = a1 then 0 else (if (fX12_in (mX12_lacksT μ) a2 1 60) = 0 then 0 else (fX12_walkOf (rj_pi (rj_pi (mX12_keeps (mX12_lacksT μ)) 396 ((7 + (4 * a0)) + a1).toNatClampNeg a2) 396 ((7 + (4 * a1)) + a0).toNatClampNeg a2) a0 a1)))))
def mX12_setWay (μ : rj_M) (a0 : Int32) (a1 : Int32) (a2 : Int32) : rj_M := (if (fX12_isStage μ a0) = 0 then (mX12_lacksF μ) else (if (fX12_isStage μ a1) = 0 then (mX12_lacksF μ) else (if a0 = a1 then (mX12_noF (mX12_lacksT μ) 2) else (if (fX12_in (mX12_lacksT μ) a2 1 60) = 0 then (mX12_noF (mX12_lacksT μ) 2) else (rj_pi (rj_pi (mX12_keeps (mX12_lacksT μ)) 396 ((7 + (4 * a0)) + a1).toNatClampNeg a2) 396 ((7 + (4 * a1)) + a0).toNatClampNeg a2)))))
def qX12_setWay (μ : rj_M) (a0 : Int32) (a1 : Int32) (a2 : Int32) : Prop := ((((fX12_isStage μ a0) = 0) → True) ∧ ((¬ ((fX12_isStage μ a0) = 0)) → ((((fX12_isStage μ a1) = 0) → True) ∧ ((¬ ((fX12_isStage μ a1) = 0)) → (((a0 = a1) → True) ∧ ((¬ (a0 = a1)) → ((((fX12_in (mX12_lacksT μ) a2 1 60) = 0) → True) ∧ ((¬ ((fX12_in (mX12_lacksT μ) a2 1 60) = 0)) → (qX12_keeps (mX12_lacksT μ) ∧ qX12_walkOf (rj_pi (rj_pi (mX12_keeps (mX12_lacksT μ)) 396 ((7 + (4 * a0)) + a1).toNatClampNeg a2) 396 ((7 + (4 * a1)) + a0).toNatClampNeg a2) a0 a1 ∧ True)))))))))
set_option maxHeartbeats 40000000 in
set_option maxRecDepth 100000 in
theorem sX12_setWay {g : rj_G} {ω : rj_W} (hω : rj_ok ω) (μ : rj_M) (a0 : Int32) (a1 : Int32) (a2 : Int32)   (hq : qX12_setWay μ a0 a1 a2) : rj_Sp g yX12_setWay wsX12_setWay (rj_rm 2 0) [.ref (ω.2.2 395), .int a0, .int a1, .int a2] ω μ (rj_D (.inl (some (.int (fX12_setWay μ a0 a1 a2)))) ω (mX12_setWay μ a0 a1 a2)) := by
  have hqa := hq
  unfold qX12_setWay at hqa
  refine rj_of' (cc := cX12_setWay) (nL := 4) (ret := (some .int)) (own := RX12) (l0 := [(0, .ref (ω.2.2 395)), (1, .int a0), (2, .int a1), (3, .int a2)]) rfl (by decide +kernel) rfl (Nat.le_of_ble_eq_true rfl) rfl ?_
  refine rj_aload_n 0 dX12_setWay_0 rfl rfl ?_
  refine rj_iload_n 1 dX12_setWay_1 rfl rfl ?_
  refine rj_cS (rest := [.ref (ω.2.2 395)]) (sX12_isStage (g := g) (ω := ω) hω μ a0   ) gX12_setWay_X12_isStage rfl hSX12_isStage ⟨Nat.le_of_ble_eq_true rfl, Nat.le_of_ble_eq_true rfl⟩ dX12_setWay_2 rfl rfl rfl (Nat.le_of_ble_eq_true rfl) rfl (Nat.le_of_ble_eq_true rfl) rfl ?_
  refine rj_if_eq dX12_setWay_5 rfl rfl (fun h1 => ?_) (fun h1 => ?_)
  · skip
    refine rj_iconst (v := 0) dX12_setWay_19 rfl (by decide) ?_
    refine rj_cV (rest := []) (sX12_lacksF (g := g) (ω := ω) hω μ   ) gX12_setWay_X12_lacks (rj_lt hω (k := 395) rfl) (rj_sh hω ly_395) rfl rfl hVX12_lacks ⟨Nat.le_of_ble_eq_true rfl, Nat.le_of_ble_eq_true rfl⟩ dX12_setWay_20 rfl rfl rfl (Nat.le_of_ble_eq_true rfl) rfl (Nat.le_of_ble_eq_true rfl) rfl ?_
    refine rj_if_ne dX12_setWay_23 rfl rfl (fun h2 => ?_) (fun h2 => ?_)
    · refine rj_iconst (v := 0) dX12_setWay_54 rfl (by decide) ?_
      exact rj_iret dX12_setWay_55 rfl (Nat.le_of_ble_eq_true rfl) (Nat.le_of_ble_eq_true rfl) ⟨(by unfold fX12_setWay; rw [if_pos h1]; try rfl), rfl, (by unfold mX12_setWay; rw [if_pos h1]; try rfl)⟩
    · exact absurd h2 (by decide)
  · have hq2 := (And.right hqa) h1
    refine rj_iload_n 2 dX12_setWay_8 rfl rfl ?_
    refine rj_cS (rest := [.ref (ω.2.2 395)]) (sX12_isStage (g := g) (ω := ω) hω μ a1   ) gX12_setWay_X12_isStage rfl hSX12_isStage ⟨Nat.le_of_ble_eq_true rfl, Nat.le_of_ble_eq_true rfl⟩ dX12_setWay_9 rfl rfl rfl (Nat.le_of_ble_eq_true rfl) rfl (Nat.le_of_ble_eq_true rfl) rfl ?_
    refine rj_if_eq dX12_setWay_12 rfl rfl (fun h3 => ?_) (fun h3 => ?_)
    · skip
      refine rj_iconst (v := 0) dX12_setWay_19 rfl (by decide) ?_
      refine rj_cV (rest := []) (sX12_lacksF (g := g) (ω := ω) hω μ   ) gX12_setWay_X12_lacks (rj_lt hω (k := 395) rfl) (rj_sh hω ly_395) rfl rfl hVX12_lacks ⟨Nat.le_of_ble_eq_true rfl, Nat.le_of_ble_eq_true rfl⟩ dX12_setWay_20 rfl rfl rfl (Nat.le_of_ble_eq_true rfl) rfl (Nat.le_of_ble_eq_true rfl) rfl ?_
      refine rj_if_ne dX12_setWay_23 rfl rfl (fun h4 => ?_) (fun h4 => ?_)
      · refine rj_iconst (v := 0) dX12_setWay_54 rfl (by decide) ?_
        exact rj_iret dX12_setWay_55 rfl (Nat.le_of_ble_eq_true rfl) (Nat.le_of_ble_eq_true rfl) ⟨(by unfold fX12_setWay; rw [if_neg h1]; rw [if_pos h3]; try rfl), rfl, (by unfold mX12_setWay; rw [if_neg h1]; rw [if_pos h3]; try rfl)⟩
      · exact absurd h4 (by decide)
    · have hq4 := (And.right hq2) h3
      refine rj_iconst (v := 1) dX12_setWay_15 rfl (by decide) ?_
      refine rj_goto dX12_setWay_16 rfl ?_
      refine rj_cV (rest := []) (sX12_lacksT (g := g) (ω := ω) hω μ   ) gX12_setWay_X12_lacks (rj_lt hω (k := 395) rfl) (rj_sh hω ly_395) rfl rfl hVX12_lacks ⟨Nat.le_of_ble_eq_true rfl, Nat.le_of_ble_eq_true rfl⟩ dX12_setWay_20 rfl rfl rfl (Nat.le_of_ble_eq_true rfl) rfl (Nat.le_of_ble_eq_true rfl) rfl ?_
      refine rj_if_ne dX12_setWay_23 rfl rfl (fun h5 => ?_) (fun h5 => ?_)
      · exact absurd (by decide) h5
      · refine rj_aload_n 0 dX12_setWay_26 rfl rfl ?_
        refine rj_iload_n 1 dX12_setWay_27 rfl rfl ?_
        refine rj_iload_n 2 dX12_setWay_28 rfl rfl ?_
        refine rj_icmp_eq dX12_setWay_29 rfl rfl (fun h6 => ?_) (fun h6 => ?_)
        · skip
          refine rj_iconst (v := 0) dX12_setWay_46 rfl (by decide) ?_
          refine rj_iconst (v := 2) dX12_setWay_47 rfl (by decide) ?_
          refine rj_cV (rest := []) (sX12_noF (g := g) (ω := ω) hω (mX12_lacksT μ) 2   ) gX12_setWay_X12_no (rj_lt hω (k := 395) rfl) (rj_sh hω ly_395) rfl rfl hVX12_no ⟨Nat.le_of_ble_eq_true rfl, Nat.le_of_ble_eq_true rfl⟩ dX12_setWay_48 rfl rfl rfl (Nat.le_of_ble_eq_true rfl) rfl (Nat.le_of_ble_eq_true rfl) rfl ?_
          refine rj_if_eq dX12_setWay_51 rfl rfl (fun h7 => ?_) (fun h7 => ?_)
          · exact absurd h7 (by decide)
          · refine rj_iconst (v := 0) dX12_setWay_54 rfl (by decide) ?_
            exact rj_iret dX12_setWay_55 rfl (Nat.le_of_ble_eq_true rfl) (Nat.le_of_ble_eq_true rfl) ⟨(by unfold fX12_setWay; rw [if_neg h1]; rw [if_neg h3]; rw [if_pos h6]; try rfl), rfl, (by unfold mX12_setWay; rw [if_neg h1]; rw [if_neg h3]; rw [if_pos h6]; try rfl)⟩
        · have hq6 := (And.right hq4) h6
          refine rj_iload_n 3 dX12_setWay_32 rfl rfl ?_
          refine rj_iconst (v := 1) dX12_setWay_33 rfl (by decide) ?_
          refine rj_bipush (v := 60) dX12_setWay_34 rfl (by decide) ?_
          refine rj_cS (rest := [.ref (ω.2.2 395)]) (sX12_in (g := g) (ω := ω) hω (mX12_lacksT μ) a2 1 60   ) gX12_setWay_X12_in rfl hSX12_in ⟨Nat.le_of_ble_eq_true rfl, Nat.le_of_ble_eq_true rfl⟩ dX12_setWay_36 rfl rfl rfl (Nat.le_of_ble_eq_true rfl) rfl (Nat.le_of_ble_eq_true rfl) rfl ?_
          refine rj_if_eq dX12_setWay_39 rfl rfl (fun h8 => ?_) (fun h8 => ?_)
          · skip
            refine rj_iconst (v := 0) dX12_setWay_46 rfl (by decide) ?_
            refine rj_iconst (v := 2) dX12_setWay_47 rfl (by decide) ?_
            refine rj_cV (rest := []) (sX12_noF (g := g) (ω := ω) hω (mX12_lacksT μ) 2   ) gX12_setWay_X12_no (rj_lt hω (k := 395) rfl) (rj_sh hω ly_395) rfl rfl hVX12_no ⟨Nat.le_of_ble_eq_true rfl, Nat.le_of_ble_eq_true rfl⟩ dX12_setWay_48 rfl rfl rfl (Nat.le_of_ble_eq_true rfl) rfl (Nat.le_of_ble_eq_true rfl) rfl ?_
            refine rj_if_eq dX12_setWay_51 rfl rfl (fun h9 => ?_) (fun h9 => ?_)
            · exact absurd h9 (by decide)
            · refine rj_iconst (v := 0) dX12_setWay_54 rfl (by decide) ?_
              exact rj_iret dX12_setWay_55 rfl (Nat.le_of_ble_eq_true rfl) (Nat.le_of_ble_eq_true rfl) ⟨(by unfold fX12_setWay; rw [if_neg h1]; rw [if_neg h3]; rw [if_neg h6]; rw [if_pos h8]; try rfl), rfl, (by unfold mX12_setWay; rw [if_neg h1]; rw [if_neg h3]; rw [if_neg h6]; rw [if_pos h8]; try rfl)⟩
          · have hq8 := (And.right hq6) h8
            refine rj_iconst (v := 1) dX12_setWay_42 rfl (by decide) ?_
            refine rj_goto dX12_setWay_43 rfl ?_
            refine rj_iconst (v := 2) dX12_setWay_47 rfl (by decide) ?_
            refine rj_cV (rest := []) (sX12_noT (g := g) (ω := ω) hω (mX12_lacksT μ) 2   ) gX12_setWay_X12_no (rj_lt hω (k := 395) rfl) (rj_sh hω ly_395) rfl rfl hVX12_no ⟨Nat.le_of_ble_eq_true rfl, Nat.le_of_ble_eq_true rfl⟩ dX12_setWay_48 rfl rfl rfl (Nat.le_of_ble_eq_true rfl) rfl (Nat.le_of_ble_eq_true rfl) rfl ?_
            refine rj_if_eq dX12_setWay_51 rfl rfl (fun h10 => ?_) (fun h10 => ?_)
            · refine rj_aload_n 0 dX12_setWay_56 rfl rfl ?_
              refine rj_cV (rest := []) (sX12_keeps (g := g) (ω := ω) hω (mX12_lacksT μ)   (And.left hq8)) gX12_setWay_X12_keeps (rj_lt hω (k := 395) rfl) (rj_sh hω ly_395) rfl rfl hVX12_keeps ⟨Nat.le_of_ble_eq_true rfl, Nat.le_of_ble_eq_true rfl⟩ dX12_setWay_57 rfl rfl rfl (Nat.le_of_ble_eq_true rfl) rfl (Nat.le_of_ble_eq_true rfl) rfl ?_
              refine rj_aload_n 0 dX12_setWay_60 rfl rfl ?_
              refine rj_getR (C0 := RX12) (T := TX12) (N := 16) (j := 1) (r := 396) dX12_setWay_61 rfl vX12_setWay_12 rfl (rj_lt hω (k := 395) rfl) (rj_sh hω ly_395) (by decide) kX12_setWay_9 rfl ?_
              refine rj_bipush (v := 7) dX12_setWay_64 rfl (by decide) ?_
              refine rj_iconst (v := 4) dX12_setWay_66 rfl (by decide) ?_
              refine rj_iload_n 1 dX12_setWay_67 rfl rfl ?_
              refine rj_imul dX12_setWay_68 rfl ?_
              refine rj_iadd dX12_setWay_69 rfl ?_
              refine rj_iload_n 2 dX12_setWay_70 rfl rfl ?_
              refine rj_iadd dX12_setWay_71 rfl ?_
              refine rj_iload_n 3 dX12_setWay_72 rfl rfl ?_
              refine rj_iast dX12_setWay_73 rfl (rj_lt hω (k := 396) rfl) (rj_sh hω ly_396) (rj_vle (rj_vadd (N := 23) (rj_vadd (N := 20) (vp_in_nI (n := 7) (N := 8) (rj_bl rfl) (rj_bl rfl)) (rj_vmul (k := 4) (N := 13) (rj_isStage h1) rfl rfl) rfl rfl) (rj_isStage h3) rfl rfl) rfl) ?_
              refine rj_aload_n 0 dX12_setWay_74 rfl rfl ?_
              refine rj_getR (C0 := RX12) (T := TX12) (N := 16) (j := 1) (r := 396) dX12_setWay_75 rfl vX12_setWay_12 rfl (rj_lt hω (k := 395) rfl) (rj_sh hω ly_395) (by decide) kX12_setWay_9 rfl ?_
              refine rj_bipush (v := 7) dX12_setWay_78 rfl (by decide) ?_
              refine rj_iconst (v := 4) dX12_setWay_80 rfl (by decide) ?_
              refine rj_iload_n 2 dX12_setWay_81 rfl rfl ?_
              refine rj_imul dX12_setWay_82 rfl ?_
              refine rj_iadd dX12_setWay_83 rfl ?_
              refine rj_iload_n 1 dX12_setWay_84 rfl rfl ?_
              refine rj_iadd dX12_setWay_85 rfl ?_
              refine rj_iload_n 3 dX12_setWay_86 rfl rfl ?_
              refine rj_iast dX12_setWay_87 rfl (rj_lt hω (k := 396) rfl) (rj_sh hω ly_396) (rj_vle (rj_vadd (N := 23) (rj_vadd (N := 20) (vp_in_nI (n := 7) (N := 8) (rj_bl rfl) (rj_bl rfl)) (rj_vmul (k := 4) (N := 13) (rj_isStage h3) rfl rfl) rfl rfl) (rj_isStage h1) rfl rfl) rfl) ?_
              refine rj_aload_n 0 dX12_setWay_88 rfl rfl ?_
              refine rj_iload_n 1 dX12_setWay_89 rfl rfl ?_
              refine rj_iload_n 2 dX12_setWay_90 rfl rfl ?_
              refine rj_cV (rest := []) (sX12_walkOf (g := g) (ω := ω) hω (rj_pi (rj_pi (mX12_keeps (mX12_lacksT μ)) 396 ((7 + (4 * a0)) + a1).toNatClampNeg a2) 396 ((7 + (4 * a1)) + a0).toNatClampNeg a2) a0 a1  (rj_isStage h1) (rj_isStage h3) (And.left (And.right hq8))) gX12_setWay_X12_walkOf (rj_lt hω (k := 395) rfl) (rj_sh hω ly_395) rfl rfl hVX12_walkOf ⟨Nat.le_of_ble_eq_true rfl, Nat.le_of_ble_eq_true rfl⟩ dX12_setWay_91 rfl rfl rfl (Nat.le_of_ble_eq_true rfl) rfl (Nat.le_of_ble_eq_true rfl) rfl ?_
              exact rj_iret dX12_setWay_94 rfl (Nat.le_of_ble_eq_true rfl) (Nat.le_of_ble_eq_true rfl) ⟨(by unfold fX12_setWay; rw [if_neg h1]; rw [if_neg h3]; rw [if_neg h6]; rw [if_neg h8]; try rfl), rfl, (by unfold mX12_setWay; rw [if_neg h1]; rw [if_neg h3]; rw [if_neg h6]; rw [if_neg h8]; try rfl)⟩
            · exact absurd (by decide) h10
