theorem hSX12_areEvenings : yX12_areEvenings.cls ≠ "java/lang/invoke/MethodHandle" ∧ yX12_areEvenings.cls ≠ "java/lang/invoke/VarHandle" ∧ (parseMethodDescriptor yX12_areEvenings.desc).map (fun d => d.parameters.length) = some 0 := by decide +kernel
theorem hVX12_areEvenings : yX12_areEvenings.cls = RX12 ∧ yX12_areEvenings.cls ≠ "java/lang/invoke/MethodHandle" ∧ yX12_areEvenings.cls ≠ "java/lang/invoke/VarHandle" ∧ (parseMethodDescriptor yX12_areEvenings.desc).map (fun d => d.parameters.length) = some 0 := by decide +kernel
theorem vX12_areEvenings_12 : ∀ w ∈ u_ws RX12 TX12 16, w ∈ wsX12_areEvenings := by decide +kernel
theorem kX12_areEvenings_163 : Cond.fieldLink RX12 163 (TX12 8).1 (TX12 8).2.1 (TX12 8).2.2.1 ∈ wsX12_areEvenings := by decide +kernel
theorem kX12_areEvenings_21 : Cond.fieldLink RX12 21 (TX12 7).1 (TX12 7).2.1 (TX12 7).2.2.1 ∈ wsX12_areEvenings := by decide +kernel
noncomputable def bX12_areEvenings_31 (μ : rj_M) (j4 : Nat) (s4 : Int32 × rj_M) (j12 : Nat) (s12 : Int32 × rj_M) (j31 : Nat) (s31 : Int32) : Int32 := (s31 + (fX12_wishOf (mX12_findsEvening s12.2 (nI j4) (nI j12)) (nI j4) ((mX12_findsEvening s12.2 (nI j4) (nI j12)).1 407 (nI j31).toNatClampNeg)))
noncomputable def qX12_areEvenings_31 (μ : rj_M) (j4 : Nat) (s4 : Int32 × rj_M) (j12 : Nat) (s12 : Int32 × rj_M) (j31 : Nat) (s31 : Int32) : Prop := (vp_in (nI j31) 16 ∧ vp_in ((mX12_findsEvening s12.2 (nI j4) (nI j12)).1 407 (nI j31).toNatClampNeg) 16 ∧ True)
set_option maxHeartbeats 4000000 in
set_option maxRecDepth 100000 in
theorem lX12_areEvenings_31 {g : rj_G} {ω : rj_W} (hω : rj_ok ω) (μ : rj_M) (j4 : Nat) (s4 : Int32 × rj_M) (j12 : Nat) (s12 : Int32 × rj_M)   (hl4 : j4 < 12) (hl12 : j12 < 4)  (h1 : ¬ (12 ≤ nI j4)) (h2 : ¬ (4 ≤ nI j12)) {F : rj_F} : ∀ (r j : Nat) (s : Int32), r = ((mX12_findsEvening s12.2 (nI j4) (nI j12)).1 395 8).toInt.toNat - j → j < 2 ^ 31 → (True → ra_fo (qX12_areEvenings_31 μ j4 s4 j12 s12) (bX12_areEvenings_31 μ j4 s4 j12 s12) r j s) → (rj_R g RX12 cX12_areEvenings 7 (some .boolean) wsX12_areEvenings [] (rj_rm 5 0) F 0 ω (mX12_findsEvening s12.2 (nI j4) (nI j12)) [(0, .ref (ω.2.2 395)), (1, .int s12.1), (2, .int (nI j4)), (3, .int (nI j12)), (4, .int (fX12_findsEvening s12.2 (nI j4) (nI j12))), (5, .int (rj_fo (bX12_areEvenings_31 μ j4 s4 j12 s12) r j s))] 63 []) → rj_R g RX12 cX12_areEvenings 7 (some .boolean) wsX12_areEvenings [] (rj_rm 5 0) F 0 ω (mX12_findsEvening s12.2 (nI j4) (nI j12)) [(0, .ref (ω.2.2 395)), (1, .int s12.1), (2, .int (nI j4)), (3, .int (nI j12)), (4, .int (fX12_findsEvening s12.2 (nI j4) (nI j12))), (5, .int s), (6, .int (nI j))] 31 [] := by
  intro r
  induction r with
  | zero =>
    intro j s hj hJ hq0 K
    have e0 : ((mX12_findsEvening s12.2 (nI j4) (nI j12)).1 395 8).toInt.toNat ≤ j := by omega
    have hge : ((mX12_findsEvening s12.2 (nI j4) (nI j12)).1 395 8) ≤ nI j := (rj_leN hJ).mpr e0
    refine rj_iload 6 dX12_areEvenings_31 rfl rfl ?_
    refine rj_aload_n 0 dX12_areEvenings_33 rfl rfl ?_
    refine rj_getI (C0 := RX12) (T := TX12) (N := 16) (j := 8) dX12_areEvenings_34 rfl vX12_areEvenings_12 rfl (rj_lt hω (k := 395) rfl) (rj_sh hω ly_395) (by decide) kX12_areEvenings_163 rfl ?_
    refine rj_icmp_ge dX12_areEvenings_37 rfl rfl (fun h4 => ?_) (fun h4 => ?_)
    · refine rj_sub (l' := [(0, .ref (ω.2.2 395)), (1, .int s12.1), (2, .int (nI j4)), (3, .int (nI j12)), (4, .int (fX12_findsEvening s12.2 (nI j4) (nI j12))), (5, .int s)]) [0, 1, 2, 3, 4, 5] rfl ?_
      exact K
    · exact absurd hge h4
  | succ r ih =>
    intro j31 s31 hj hJ hq0 K
    have hl31 : j31 < ((mX12_findsEvening s12.2 (nI j4) (nI j12)).1 395 8).toInt.toNat := by omega
    have hg31 : ¬ ((mX12_findsEvening s12.2 (nI j4) (nI j12)).1 395 8) ≤ nI j31 := fun z => absurd ((rj_leN hJ).mp z) (by omega)
    have hN := rj_tN ((mX12_findsEvening s12.2 (nI j4) (nI j12)).1 395 8)
    have hqa := ra_fo_q (hq0 True.intro)
    unfold qX12_areEvenings_31 at hqa
    refine rj_iload 6 dX12_areEvenings_31 rfl rfl ?_
    refine rj_aload_n 0 dX12_areEvenings_33 rfl rfl ?_
    refine rj_getI (C0 := RX12) (T := TX12) (N := 16) (j := 8) dX12_areEvenings_34 rfl vX12_areEvenings_12 rfl (rj_lt hω (k := 395) rfl) (rj_sh hω ly_395) (by decide) kX12_areEvenings_163 rfl ?_
    refine rj_icmp_ge dX12_areEvenings_37 rfl rfl (fun h3 => ?_) (fun h3 => ?_)
    · exact absurd h3 hg31
    · refine rj_iload 5 dX12_areEvenings_40 rfl rfl ?_
      refine rj_aload_n 0 dX12_areEvenings_42 rfl rfl ?_
      refine rj_iload_n 2 dX12_areEvenings_43 rfl rfl ?_
      refine rj_aload_n 0 dX12_areEvenings_44 rfl rfl ?_
      refine rj_getR (C0 := RX12) (T := TX12) (N := 16) (j := 7) (r := 407) dX12_areEvenings_45 rfl vX12_areEvenings_12 rfl (rj_lt hω (k := 395) rfl) (rj_sh hω ly_395) (by decide) kX12_areEvenings_21 rfl ?_
      refine rj_iload 6 dX12_areEvenings_48 rfl rfl ?_
      refine rj_iald dX12_areEvenings_50 rfl (rj_lt hω (k := 407) rfl) (rj_sh hω ly_407) (And.left hqa) ?_
      refine rj_cV (rest := [.int s31]) (sX12_wishOf (g := g) (ω := ω) hω (mX12_findsEvening s12.2 (nI j4) (nI j12)) (nI j4) ((mX12_findsEvening s12.2 (nI j4) (nI j12)).1 407 (nI j31).toNatClampNeg)  (vp_in_nI hl4 (rj_bl rfl)) (And.left (And.right hqa)) ) gX12_areEvenings_X12_wishOf (rj_lt hω (k := 395) rfl) (rj_sh hω ly_395) rfl rfl hVX12_wishOf ⟨Nat.le_of_ble_eq_true rfl, Nat.le_of_ble_eq_true rfl⟩ dX12_areEvenings_51 rfl rfl rfl (Nat.le_of_ble_eq_true rfl) rfl (Nat.le_of_ble_eq_true rfl) rfl ?_
      refine rj_iadd dX12_areEvenings_54 rfl ?_
      refine rj_istore (l' := [(5, .int (s31 + (fX12_wishOf (mX12_findsEvening s12.2 (nI j4) (nI j12)) (nI j4) ((mX12_findsEvening s12.2 (nI j4) (nI j12)).1 407 (nI j31).toNatClampNeg)))), (0, .ref (ω.2.2 395)), (1, .int s12.1), (2, .int (nI j4)), (3, .int (nI j12)), (4, .int (fX12_findsEvening s12.2 (nI j4) (nI j12))), (6, .int (nI j31))]) dX12_areEvenings_55 rfl (rj_bl rfl) rfl ?_
      refine rj_iinc (v := nI (j31 + 1)) (l' := [(6, .int (nI (j31 + 1))), (5, .int (s31 + (fX12_wishOf (mX12_findsEvening s12.2 (nI j4) (nI j12)) (nI j4) ((mX12_findsEvening s12.2 (nI j4) (nI j12)).1 407 (nI j31).toNatClampNeg)))), (0, .ref (ω.2.2 395)), (1, .int s12.1), (2, .int (nI j4)), (3, .int (nI j12)), (4, .int (fX12_findsEvening s12.2 (nI j4) (nI j12)))]) 6 dX12_areEvenings_57 rfl rfl (nI_succ j31).symm (rj_bl rfl) rfl ?_
      refine rj_goto dX12_areEvenings_60 rfl ?_
      have e : bX12_areEvenings_31 μ j4 s4 j12 s12 j31 s31 = (s31 + (fX12_wishOf (mX12_findsEvening s12.2 (nI j4) (nI j12)) (nI j4) ((mX12_findsEvening s12.2 (nI j4) (nI j12)).1 407 (nI j31).toNatClampNeg))) := by unfold bX12_areEvenings_31; rfl
      exact rj_sub (l' := [(0, .ref (ω.2.2 395)), (1, .int s12.1), (2, .int (nI j4)), (3, .int (nI j12)), (4, .int (fX12_findsEvening s12.2 (nI j4) (nI j12))), (5, .int (s31 + (fX12_wishOf (mX12_findsEvening s12.2 (nI j4) (nI j12)) (nI j4) ((mX12_findsEvening s12.2 (nI j4) (nI j12)).1 407 (nI j31).toNatClampNeg)))), (6, .int (nI (j31 + 1)))]) [2, 3, 4, 5, 6, 1, 0] rfl (ih (j31 + 1) (s31 + (fX12_wishOf (mX12_findsEvening s12.2 (nI j4) (nI j12)) (nI j4) ((mX12_findsEvening s12.2 (nI j4) (nI j12)).1 407 (nI j31).toNatClampNeg))) (by omega) (by omega) (fun _ => ra_fo_n (hq0 True.intro) e) (by rw [rj_fo_s (r := r), e] at K; exact K))
noncomputable def bX12_areEvenings_12 (μ : rj_M) (j4 : Nat) (s4 : Int32 × rj_M) (j12 : Nat) (s12 : Int32 × rj_M) : (Int32 × rj_M) := (if s12.1 = 0 then (0, (mX12_findsEvening s12.2 (nI j4) (nI j12))) else (if (rj_fo (bX12_areEvenings_31 μ j4 s4 j12 s12) (((mX12_findsEvening s12.2 (nI j4) (nI j12)).1 395 8).toInt.toNat - 0) 0 0) = (fX12_findsEvening s12.2 (nI j4) (nI j12)) then (1, (mX12_findsEvening s12.2 (nI j4) (nI j12))) else (0, (mX12_findsEvening s12.2 (nI j4) (nI j12)))))
noncomputable def qX12_areEvenings_12 (μ : rj_M) (j4 : Nat) (s4 : Int32 × rj_M) (j12 : Nat) (s12 : Int32 × rj_M) : Prop := (qX12_findsEvening s12.2 (nI j4) (nI j12) ∧ ((True → ra_fo (qX12_areEvenings_31 μ j4 s4 j12 s12) (bX12_areEvenings_31 μ j4 s4 j12 s12) (((mX12_findsEvening s12.2 (nI j4) (nI j12)).1 395 8).toInt.toNat - 0) 0 0) ∧ True))
set_option maxHeartbeats 4000000 in
set_option maxRecDepth 100000 in
theorem lX12_areEvenings_12 {g : rj_G} {ω : rj_W} (hω : rj_ok ω) (μ : rj_M) (j4 : Nat) (s4 : Int32 × rj_M)   (hl4 : j4 < 12)  (h1 : ¬ (12 ≤ nI j4)) {F : rj_F} : ∀ (r j : Nat) (s : Int32 × rj_M), j + r = 4 → (True → ra_fo (qX12_areEvenings_12 μ j4 s4) (bX12_areEvenings_12 μ j4 s4) r j s) → (rj_R g RX12 cX12_areEvenings 7 (some .boolean) wsX12_areEvenings [] (rj_rm 5 0) F 0 ω ((rj_fo (bX12_areEvenings_12 μ j4 s4) r j s).2) [(0, .ref (ω.2.2 395)), (1, .int ((rj_fo (bX12_areEvenings_12 μ j4 s4) r j s).1)), (2, .int (nI j4)), (3, .int (nI 4))] 86 []) → rj_R g RX12 cX12_areEvenings 7 (some .boolean) wsX12_areEvenings [] (rj_rm 5 0) F 0 ω s.2 [(0, .ref (ω.2.2 395)), (1, .int s.1), (2, .int (nI j4)), (3, .int (nI j))] 12 [] := by
  intro r
  induction r with
  | zero =>
    intro j s hj hq0 K
    have e0 : j = 4 := by omega
    have hge : 4 ≤ nI j := by
      rw [e0]
      exact Int32.le_refl _
    refine rj_iload_n 3 dX12_areEvenings_12 rfl rfl ?_
    refine rj_iconst (v := 4) dX12_areEvenings_13 rfl (by decide) ?_
    refine rj_icmp_ge dX12_areEvenings_14 rfl rfl (fun h7 => ?_) (fun h7 => ?_)
    · have e1 : nI j = nI 4 := by rw [e0]
      rw [e1]
      exact K
    · exact absurd hge h7
  | succ r ih =>
    intro j12 s12 hj hq0 K
    have hl12 : j12 < 4 := by omega
    have hg12 : ¬ 4 ≤ nI j12 := nI_ge hl12 (rj_bl rfl)
    have hqa := ra_fo_q (hq0 True.intro)
    unfold qX12_areEvenings_12 at hqa
    refine rj_iload_n 3 dX12_areEvenings_12 rfl rfl ?_
    refine rj_iconst (v := 4) dX12_areEvenings_13 rfl (by decide) ?_
    refine rj_icmp_ge dX12_areEvenings_14 rfl rfl (fun h2 => ?_) (fun h2 => ?_)
    · exact absurd h2 hg12
    · refine rj_aload_n 0 dX12_areEvenings_17 rfl rfl ?_
      refine rj_iload_n 2 dX12_areEvenings_18 rfl rfl ?_
      refine rj_iload_n 3 dX12_areEvenings_19 rfl rfl ?_
      refine rj_cV (rest := []) (sX12_findsEvening (g := g) (ω := ω) hω s12.2 (nI j4) (nI j12)  (vp_in_nI hl4 (rj_bl rfl)) (And.left hqa)) gX12_areEvenings_X12_findsEvening (rj_lt hω (k := 395) rfl) (rj_sh hω ly_395) rfl rfl hVX12_findsEvening ⟨Nat.le_of_ble_eq_true rfl, Nat.le_of_ble_eq_true rfl⟩ dX12_areEvenings_20 rfl rfl rfl (Nat.le_of_ble_eq_true rfl) rfl (Nat.le_of_ble_eq_true rfl) rfl ?_
      refine rj_istore (l' := [(4, .int (fX12_findsEvening s12.2 (nI j4) (nI j12))), (0, .ref (ω.2.2 395)), (1, .int s12.1), (2, .int (nI j4)), (3, .int (nI j12))]) dX12_areEvenings_23 rfl (rj_bl rfl) rfl ?_
      refine rj_iconst (v := 0) dX12_areEvenings_25 rfl (by decide) ?_
      refine rj_istore (l' := [(5, .int 0), (4, .int (fX12_findsEvening s12.2 (nI j4) (nI j12))), (0, .ref (ω.2.2 395)), (1, .int s12.1), (2, .int (nI j4)), (3, .int (nI j12))]) dX12_areEvenings_26 rfl (rj_bl rfl) rfl ?_
      refine rj_iconst (v := 0) dX12_areEvenings_28 rfl (by decide) ?_
      refine rj_istore (l' := [(6, .int 0), (5, .int 0), (4, .int (fX12_findsEvening s12.2 (nI j4) (nI j12))), (0, .ref (ω.2.2 395)), (1, .int s12.1), (2, .int (nI j4)), (3, .int (nI j12))]) dX12_areEvenings_29 rfl (rj_bl rfl) rfl ?_
      refine rj_sub (l' := [(0, .ref (ω.2.2 395)), (1, .int s12.1), (2, .int (nI j4)), (3, .int (nI j12)), (4, .int (fX12_findsEvening s12.2 (nI j4) (nI j12))), (5, .int 0), (6, .int (nI 0))]) [3, 4, 5, 6, 2, 1, 0] rfl ?_
      refine lX12_areEvenings_31 hω μ j4 s4 j12 s12   hl4 hl12  h1 h2 (((mX12_findsEvening s12.2 (nI j4) (nI j12)).1 395 8).toInt.toNat - 0) 0 0 rfl (rj_bl rfl) (And.left (And.right hqa)) ?_
      refine rj_iload_n 1 dX12_areEvenings_63 rfl rfl ?_
      refine rj_if_eq dX12_areEvenings_64 rfl rfl (fun h5 => ?_) (fun h5 => ?_)
      · skip
        refine rj_iconst (v := 0) dX12_areEvenings_78 rfl (by decide) ?_
        refine rj_istore_n (l' := [(1, .int 0), (0, .ref (ω.2.2 395)), (2, .int (nI j4)), (3, .int (nI j12)), (4, .int (fX12_findsEvening s12.2 (nI j4) (nI j12))), (5, .int (rj_fo (bX12_areEvenings_31 μ j4 s4 j12 s12) (((mX12_findsEvening s12.2 (nI j4) (nI j12)).1 395 8).toInt.toNat - 0) 0 0))]) dX12_areEvenings_79 rfl (rj_bl rfl) rfl ?_
        refine rj_iinc (v := nI (j12 + 1)) (l' := [(3, .int (nI (j12 + 1))), (1, .int 0), (0, .ref (ω.2.2 395)), (2, .int (nI j4)), (4, .int (fX12_findsEvening s12.2 (nI j4) (nI j12))), (5, .int (rj_fo (bX12_areEvenings_31 μ j4 s4 j12 s12) (((mX12_findsEvening s12.2 (nI j4) (nI j12)).1 395 8).toInt.toNat - 0) 0 0))]) 3 dX12_areEvenings_80 rfl rfl (nI_succ j12).symm (rj_bl rfl) rfl ?_
        refine rj_goto dX12_areEvenings_83 rfl ?_
        have e : bX12_areEvenings_12 μ j4 s4 j12 s12 = (0, (mX12_findsEvening s12.2 (nI j4) (nI j12))) := by unfold bX12_areEvenings_12; rw [if_pos h5]; try rfl
        revert e
        generalize (mX12_findsEvening s12.2 (nI j4) (nI j12)) = gA0
        intro e
        exact rj_sub (l' := [(0, .ref (ω.2.2 395)), (1, .int 0), (2, .int (nI j4)), (3, .int (nI (j12 + 1)))]) [2, 1, 3, 0] rfl (ih (j12 + 1) (0, gA0) (by omega) (fun _ => ra_fo_n (hq0 True.intro) e) (by rw [rj_fo_s (r := r), e] at K; exact K))
      · skip
        refine rj_iload 5 dX12_areEvenings_67 rfl rfl ?_
        refine rj_iload 4 dX12_areEvenings_69 rfl rfl ?_
        refine rj_icmp_ne dX12_areEvenings_71 rfl rfl (fun h6 => ?_) (fun h6 => ?_)
        · skip
          refine rj_iconst (v := 0) dX12_areEvenings_78 rfl (by decide) ?_
          refine rj_istore_n (l' := [(1, .int 0), (0, .ref (ω.2.2 395)), (2, .int (nI j4)), (3, .int (nI j12)), (4, .int (fX12_findsEvening s12.2 (nI j4) (nI j12))), (5, .int (rj_fo (bX12_areEvenings_31 μ j4 s4 j12 s12) (((mX12_findsEvening s12.2 (nI j4) (nI j12)).1 395 8).toInt.toNat - 0) 0 0))]) dX12_areEvenings_79 rfl (rj_bl rfl) rfl ?_
          refine rj_iinc (v := nI (j12 + 1)) (l' := [(3, .int (nI (j12 + 1))), (1, .int 0), (0, .ref (ω.2.2 395)), (2, .int (nI j4)), (4, .int (fX12_findsEvening s12.2 (nI j4) (nI j12))), (5, .int (rj_fo (bX12_areEvenings_31 μ j4 s4 j12 s12) (((mX12_findsEvening s12.2 (nI j4) (nI j12)).1 395 8).toInt.toNat - 0) 0 0))]) 3 dX12_areEvenings_80 rfl rfl (nI_succ j12).symm (rj_bl rfl) rfl ?_
          refine rj_goto dX12_areEvenings_83 rfl ?_
          have e : bX12_areEvenings_12 μ j4 s4 j12 s12 = (0, (mX12_findsEvening s12.2 (nI j4) (nI j12))) := by unfold bX12_areEvenings_12; rw [if_neg h5]; rw [if_neg h6]; try rfl
          revert e
          generalize (mX12_findsEvening s12.2 (nI j4) (nI j12)) = gA0
          intro e
          exact rj_sub (l' := [(0, .ref (ω.2.2 395)), (1, .int 0), (2, .int (nI j4)), (3, .int (nI (j12 + 1)))]) [2, 1, 3, 0] rfl (ih (j12 + 1) (0, gA0) (by omega) (fun _ => ra_fo_n (hq0 True.intro) e) (by rw [rj_fo_s (r := r), e] at K; exact K))
        · skip
          refine rj_iconst (v := 1) dX12_areEvenings_74 rfl (by decide) ?_
          refine rj_goto dX12_areEvenings_75 rfl ?_
          refine rj_istore_n (l' := [(1, .int 1), (0, .ref (ω.2.2 395)), (2, .int (nI j4)), (3, .int (nI j12)), (4, .int (fX12_findsEvening s12.2 (nI j4) (nI j12))), (5, .int (rj_fo (bX12_areEvenings_31 μ j4 s4 j12 s12) (((mX12_findsEvening s12.2 (nI j4) (nI j12)).1 395 8).toInt.toNat - 0) 0 0))]) dX12_areEvenings_79 rfl (rj_bl rfl) rfl ?_
          refine rj_iinc (v := nI (j12 + 1)) (l' := [(3, .int (nI (j12 + 1))), (1, .int 1), (0, .ref (ω.2.2 395)), (2, .int (nI j4)), (4, .int (fX12_findsEvening s12.2 (nI j4) (nI j12))), (5, .int (rj_fo (bX12_areEvenings_31 μ j4 s4 j12 s12) (((mX12_findsEvening s12.2 (nI j4) (nI j12)).1 395 8).toInt.toNat - 0) 0 0))]) 3 dX12_areEvenings_80 rfl rfl (nI_succ j12).symm (rj_bl rfl) rfl ?_
          refine rj_goto dX12_areEvenings_83 rfl ?_
          have e : bX12_areEvenings_12 μ j4 s4 j12 s12 = (1, (mX12_findsEvening s12.2 (nI j4) (nI j12))) := by unfold bX12_areEvenings_12; rw [if_neg h5]; rw [if_pos h6]; try rfl
          revert e
          generalize (mX12_findsEvening s12.2 (nI j4) (nI j12)) = gA0
          intro e
          exact rj_sub (l' := [(0, .ref (ω.2.2 395)), (1, .int 1), (2, .int (nI j4)), (3, .int (nI (j12 + 1)))]) [2, 1, 3, 0] rfl (ih (j12 + 1) (1, gA0) (by omega) (fun _ => ra_fo_n (hq0 True.intro) e) (by rw [rj_fo_s (r := r), e] at K; exact K))
set_option maxHeartbeats 4000000 in
theorem lX12_areEvenings_12u {g : rj_G} {ω : rj_W} (hω : rj_ok ω) (μ : rj_M) (j4 : Nat) (s4 : Int32 × rj_M)   (hl4 : j4 < 12)  (h1 : ¬ (12 ≤ nI j4)) {F : rj_F} : ∀ (r j : Nat) (c0 : Int32) (c1 : rj_M), j + r = 4 → (True → ra_fo (qX12_areEvenings_12 μ j4 s4) (bX12_areEvenings_12 μ j4 s4) r j (c0, c1)) → (rj_R g RX12 cX12_areEvenings 7 (some .boolean) wsX12_areEvenings [] (rj_rm 5 0) F 0 ω ((rj_fo (bX12_areEvenings_12 μ j4 s4) r j (c0, c1)).2) [(0, .ref (ω.2.2 395)), (1, .int ((rj_fo (bX12_areEvenings_12 μ j4 s4) r j (c0, c1)).1)), (2, .int (nI j4)), (3, .int (nI 4))] 86 []) → rj_R g RX12 cX12_areEvenings 7 (some .boolean) wsX12_areEvenings [] (rj_rm 5 0) F 0 ω c1 [(0, .ref (ω.2.2 395)), (1, .int c0), (2, .int (nI j4)), (3, .int (nI j))] 12 [] := fun r j c0 c1 => lX12_areEvenings_12 hω μ j4 s4   hl4  h1 r j (c0, c1)
noncomputable def bX12_areEvenings_4 (μ : rj_M) (j4 : Nat) (s4 : Int32 × rj_M) : (Int32 × rj_M) := ((rj_fo (bX12_areEvenings_12 μ j4 s4) 4 0 (s4.1, s4.2)).1, (rj_fo (bX12_areEvenings_12 μ j4 s4) 4 0 (s4.1, s4.2)).2)
noncomputable def qX12_areEvenings_4 (μ : rj_M) (j4 : Nat) (s4 : Int32 × rj_M) : Prop := ((True → ra_fo (qX12_areEvenings_12 μ j4 s4) (bX12_areEvenings_12 μ j4 s4) 4 0 (s4.1, s4.2)) ∧ True)
set_option maxHeartbeats 4000000 in
set_option maxRecDepth 100000 in
theorem lX12_areEvenings_4 {g : rj_G} {ω : rj_W} (hω : rj_ok ω) (μ : rj_M)      {F : rj_F} : ∀ (r j : Nat) (s : Int32 × rj_M), j + r = 12 → (True → ra_fo (qX12_areEvenings_4 μ) (bX12_areEvenings_4 μ) r j s) → (rj_R g RX12 cX12_areEvenings 7 (some .boolean) wsX12_areEvenings [] (rj_rm 5 0) F 0 ω ((rj_fo (bX12_areEvenings_4 μ) r j s).2) [(0, .ref (ω.2.2 395)), (1, .int ((rj_fo (bX12_areEvenings_4 μ) r j s).1)), (2, .int (nI 12))] 92 []) → rj_R g RX12 cX12_areEvenings 7 (some .boolean) wsX12_areEvenings [] (rj_rm 5 0) F 0 ω s.2 [(0, .ref (ω.2.2 395)), (1, .int s.1), (2, .int (nI j))] 4 [] := by
  intro r
  induction r with
  | zero =>
    intro j s hj hq0 K
    have e0 : j = 12 := by omega
    have hge : 12 ≤ nI j := by
      rw [e0]
      exact Int32.le_refl _
    refine rj_iload_n 2 dX12_areEvenings_4 rfl rfl ?_
    refine rj_bipush (v := 12) dX12_areEvenings_5 rfl (by decide) ?_
    refine rj_icmp_ge dX12_areEvenings_7 rfl rfl (fun h8 => ?_) (fun h8 => ?_)
    · have e1 : nI j = nI 12 := by rw [e0]
      rw [e1]
      exact K
    · exact absurd hge h8
  | succ r ih =>
    intro j4 s4 hj hq0 K
    have hl4 : j4 < 12 := by omega
    have hg4 : ¬ 12 ≤ nI j4 := nI_ge hl4 (rj_bl rfl)
    have hqa := ra_fo_q (hq0 True.intro)
    unfold qX12_areEvenings_4 at hqa
    refine rj_iload_n 2 dX12_areEvenings_4 rfl rfl ?_
    refine rj_bipush (v := 12) dX12_areEvenings_5 rfl (by decide) ?_
    refine rj_icmp_ge dX12_areEvenings_7 rfl rfl (fun h1 => ?_) (fun h1 => ?_)
    · exact absurd h1 hg4
    · refine rj_iconst (v := 0) dX12_areEvenings_10 rfl (by decide) ?_
      refine rj_istore_n (l' := [(3, .int 0), (0, .ref (ω.2.2 395)), (1, .int s4.1), (2, .int (nI j4))]) dX12_areEvenings_11 rfl (rj_bl rfl) rfl ?_
      refine rj_sub (l' := [(0, .ref (ω.2.2 395)), (1, .int s4.1), (2, .int (nI j4)), (3, .int (nI 0))]) [1, 2, 3, 0] rfl ?_
      refine lX12_areEvenings_12u hω μ j4 s4   hl4  h1 4 0 s4.1 s4.2 rfl (And.left hqa) ?_
      refine rj_iinc (v := nI (j4 + 1)) (l' := [(2, .int (nI (j4 + 1))), (0, .ref (ω.2.2 395)), (1, .int ((rj_fo (bX12_areEvenings_12 μ j4 s4) 4 0 (s4.1, s4.2)).1)), (3, .int (nI 4))]) 2 dX12_areEvenings_86 rfl rfl (nI_succ j4).symm (rj_bl rfl) rfl ?_
      refine rj_goto dX12_areEvenings_89 rfl ?_
      have e : bX12_areEvenings_4 μ j4 s4 = ((rj_fo (bX12_areEvenings_12 μ j4 s4) 4 0 (s4.1, s4.2)).1, (rj_fo (bX12_areEvenings_12 μ j4 s4) 4 0 (s4.1, s4.2)).2) := by unfold bX12_areEvenings_4; rfl
      revert e
      generalize (rj_fo (bX12_areEvenings_12 μ j4 s4) 4 0 (s4.1, s4.2)) = gA0
      intro e
      exact rj_sub (l' := [(0, .ref (ω.2.2 395)), (1, .int (gA0.1)), (2, .int (nI (j4 + 1)))]) [1, 2, 0] rfl (ih (j4 + 1) (gA0.1, gA0.2) (by omega) (fun _ => ra_fo_n (hq0 True.intro) e) (by rw [rj_fo_s (r := r), e] at K; exact K))
set_option maxHeartbeats 4000000 in
theorem lX12_areEvenings_4u {g : rj_G} {ω : rj_W} (hω : rj_ok ω) (μ : rj_M)      {F : rj_F} : ∀ (r j : Nat) (c0 : Int32) (c1 : rj_M), j + r = 12 → (True → ra_fo (qX12_areEvenings_4 μ) (bX12_areEvenings_4 μ) r j (c0, c1)) → (rj_R g RX12 cX12_areEvenings 7 (some .boolean) wsX12_areEvenings [] (rj_rm 5 0) F 0 ω ((rj_fo (bX12_areEvenings_4 μ) r j (c0, c1)).2) [(0, .ref (ω.2.2 395)), (1, .int ((rj_fo (bX12_areEvenings_4 μ) r j (c0, c1)).1)), (2, .int (nI 12))] 92 []) → rj_R g RX12 cX12_areEvenings 7 (some .boolean) wsX12_areEvenings [] (rj_rm 5 0) F 0 ω c1 [(0, .ref (ω.2.2 395)), (1, .int c0), (2, .int (nI j))] 4 [] := fun r j c0 c1 => lX12_areEvenings_4 hω μ      r j (c0, c1)
noncomputable def fX12_areEvenings (μ : rj_M) : Int32 := (rj_fo (bX12_areEvenings_4 μ) 12 0 (1, μ)).1
noncomputable def mX12_areEvenings (μ : rj_M) : rj_M := (rj_fo (bX12_areEvenings_4 μ) 12 0 (1, μ)).2
noncomputable def qX12_areEvenings (μ : rj_M) : Prop := ((True → ra_fo (qX12_areEvenings_4 μ) (bX12_areEvenings_4 μ) 12 0 (1, μ)) ∧ (narrow .boolean (.int ((rj_fo (bX12_areEvenings_4 μ) 12 0 (1, μ)).1)) = .int ((rj_fo (bX12_areEvenings_4 μ) 12 0 (1, μ)).1) ∧ True))
set_option maxHeartbeats 40000000 in
set_option maxRecDepth 100000 in
theorem sX12_areEvenings {g : rj_G} {ω : rj_W} (hω : rj_ok ω) (μ : rj_M)   (hq : qX12_areEvenings μ) : rj_Sp g yX12_areEvenings wsX12_areEvenings (rj_rm 5 0) [.ref (ω.2.2 395)] ω μ (rj_D (.inl (some (.int (fX12_areEvenings μ)))) ω (mX12_areEvenings μ)) := by
  have hqa := hq
  unfold qX12_areEvenings at hqa
  refine rj_of' (cc := cX12_areEvenings) (nL := 7) (ret := (some .boolean)) (own := RX12) (l0 := [(0, .ref (ω.2.2 395))]) rfl (by decide +kernel) rfl (Nat.le_of_ble_eq_true rfl) rfl ?_
  refine rj_iconst (v := 1) dX12_areEvenings_0 rfl (by decide) ?_
  refine rj_istore_n (l' := [(1, .int 1), (0, .ref (ω.2.2 395))]) dX12_areEvenings_1 rfl (rj_bl rfl) rfl ?_
  refine rj_iconst (v := 0) dX12_areEvenings_2 rfl (by decide) ?_
  refine rj_istore_n (l' := [(2, .int 0), (1, .int 1), (0, .ref (ω.2.2 395))]) dX12_areEvenings_3 rfl (rj_bl rfl) rfl ?_
  refine rj_sub (l' := [(0, .ref (ω.2.2 395)), (1, .int 1), (2, .int (nI 0))]) [2, 1, 0] rfl ?_
  refine lX12_areEvenings_4u hω μ      12 0 1 μ rfl (And.left hqa) ?_
  refine rj_iload_n 1 dX12_areEvenings_92 rfl rfl ?_
  exact rj_zret dX12_areEvenings_93 rfl (And.left (And.right hqa)) (Nat.le_of_ble_eq_true rfl) (Nat.le_of_ble_eq_true rfl) ⟨(by unfold fX12_areEvenings; rfl), rfl, (by unfold mX12_areEvenings; rfl)⟩
theorem hSX12_isProved : yX12_isProved.cls ≠ "java/lang/invoke/MethodHandle" ∧ yX12_isProved.cls ≠ "java/lang/invoke/VarHandle" ∧ (parseMethodDescriptor yX12_isProved.desc).map (fun d => d.parameters.length) = some 0 := by decide +kernel
theorem hVX12_isProved : yX12_isProved.cls = RX12 ∧ yX12_isProved.cls ≠ "java/lang/invoke/MethodHandle" ∧ yX12_isProved.cls ≠ "java/lang/invoke/VarHandle" ∧ (parseMethodDescriptor yX12_isProved.desc).map (fun d => d.parameters.length) = some 0 := by decide +kernel
theorem vX12_isProved_12 : ∀ w ∈ u_ws RX12 TX12 16, w ∈ wsX12_isProved := by decide +kernel
theorem kX12_isProved_9 : Cond.fieldLink RX12 9 (TX12 1).1 (TX12 1).2.1 (TX12 1).2.2.1 ∈ wsX12_isProved := by decide +kernel
noncomputable def bX12_isProved_9 (μ : rj_M) (j9 : Nat) (s9 : Int32) : Int32 := (if (((fX12_proofNow μ) >>> ((nI j9) &&& 31)) &&& 1) = 1 then (s9 + ((mX12_proofNow μ).1 396 (387 + (nI j9)).toNatClampNeg)) else (s9 + 0))
set_option maxHeartbeats 4000000 in
set_option maxRecDepth 100000 in
theorem lX12_isProved_9 {g : rj_G} {ω : rj_W} (hω : rj_ok ω) (μ : rj_M)      {F : rj_F} : ∀ (r j : Nat) (s : Int32), j + r = 24 → (rj_R g RX12 cX12_isProved 4 (some .boolean) wsX12_isProved [] (rj_rm 28 0) F 0 ω (mX12_proofNow μ) [(0, .ref (ω.2.2 395)), (1, .int (fX12_proofNow μ)), (2, .int (rj_fo (bX12_isProved_9 μ) r j s)), (3, .int (nI 24))] 47 []) → rj_R g RX12 cX12_isProved 4 (some .boolean) wsX12_isProved [] (rj_rm 28 0) F 0 ω (mX12_proofNow μ) [(0, .ref (ω.2.2 395)), (1, .int (fX12_proofNow μ)), (2, .int s), (3, .int (nI j))] 9 [] := by
  intro r
  induction r with
  | zero =>
    intro j s hj K
    have e0 : j = 24 := by omega
    have hge : 24 ≤ nI j := by
      rw [e0]
      exact Int32.le_refl _
    refine rj_iload_n 3 dX12_isProved_9 rfl rfl ?_
    refine rj_bipush (v := 24) dX12_isProved_10 rfl (by decide) ?_
    refine rj_icmp_ge dX12_isProved_12 rfl rfl (fun h3 => ?_) (fun h3 => ?_)
    · have e1 : nI j = nI 24 := by rw [e0]
      rw [e1]
      exact K
    · exact absurd hge h3
  | succ r ih =>
    intro j9 s9 hj K
    have hl9 : j9 < 24 := by omega
    have hg9 : ¬ 24 ≤ nI j9 := nI_ge hl9 (rj_bl rfl)
    refine rj_iload_n 3 dX12_isProved_9 rfl rfl ?_
    refine rj_bipush (v := 24) dX12_isProved_10 rfl (by decide) ?_
    refine rj_icmp_ge dX12_isProved_12 rfl rfl (fun h1 => ?_) (fun h1 => ?_)
    · exact absurd h1 hg9
    · refine rj_iload_n 2 dX12_isProved_15 rfl rfl ?_
      refine rj_iload_n 1 dX12_isProved_16 rfl rfl ?_
      refine rj_iload_n 3 dX12_isProved_17 rfl rfl ?_
      refine rj_ishr dX12_isProved_18 rfl ?_
      refine rj_iconst (v := 1) dX12_isProved_19 rfl (by decide) ?_
      refine rj_iand dX12_isProved_20 rfl ?_
      refine rj_iconst (v := 1) dX12_isProved_21 rfl (by decide) ?_
      refine rj_icmp_ne dX12_isProved_22 rfl rfl (fun h2 => ?_) (fun h2 => ?_)
      · skip
        refine rj_iconst (v := 0) dX12_isProved_38 rfl (by decide) ?_
        refine rj_iadd dX12_isProved_39 rfl ?_
        refine rj_istore_n (l' := [(2, .int (s9 + 0)), (0, .ref (ω.2.2 395)), (1, .int (fX12_proofNow μ)), (3, .int (nI j9))]) dX12_isProved_40 rfl (rj_bl rfl) rfl ?_
        refine rj_iinc (v := nI (j9 + 1)) (l' := [(3, .int (nI (j9 + 1))), (2, .int (s9 + 0)), (0, .ref (ω.2.2 395)), (1, .int (fX12_proofNow μ))]) 3 dX12_isProved_41 rfl rfl (nI_succ j9).symm (rj_bl rfl) rfl ?_
        refine rj_goto dX12_isProved_44 rfl ?_
        have e : bX12_isProved_9 μ j9 s9 = (s9 + 0) := by unfold bX12_isProved_9; rw [if_neg h2]; try rfl
        exact rj_sub (l' := [(0, .ref (ω.2.2 395)), (1, .int (fX12_proofNow μ)), (2, .int (s9 + 0)), (3, .int (nI (j9 + 1)))]) [2, 3, 1, 0] rfl (ih (j9 + 1) (s9 + 0) (by omega) (by rw [rj_fo_s (r := r), e] at K; exact K))
      · skip
        refine rj_aload_n 0 dX12_isProved_25 rfl rfl ?_
        refine rj_getR (C0 := RX12) (T := TX12) (N := 16) (j := 1) (r := 396) dX12_isProved_26 rfl vX12_isProved_12 rfl (rj_lt hω (k := 395) rfl) (rj_sh hω ly_395) (by decide) kX12_isProved_9 rfl ?_
        refine rj_sipush (v := 387) dX12_isProved_29 rfl (by decide) ?_
        refine rj_iload_n 3 dX12_isProved_32 rfl rfl ?_
        refine rj_iadd dX12_isProved_33 rfl ?_
        refine rj_iald dX12_isProved_34 rfl (rj_lt hω (k := 396) rfl) (rj_sh hω ly_396) (rj_vle (rj_vadd (N := 411) (vp_in_nI (n := 387) (N := 388) (rj_bl rfl) (rj_bl rfl)) (vp_in_nI (N := 24) hl9 (rj_bl rfl)) rfl rfl) rfl) ?_
        refine rj_goto dX12_isProved_35 rfl ?_
        refine rj_iadd dX12_isProved_39 rfl ?_
        refine rj_istore_n (l' := [(2, .int (s9 + ((mX12_proofNow μ).1 396 (387 + (nI j9)).toNatClampNeg))), (0, .ref (ω.2.2 395)), (1, .int (fX12_proofNow μ)), (3, .int (nI j9))]) dX12_isProved_40 rfl (rj_bl rfl) rfl ?_
        refine rj_iinc (v := nI (j9 + 1)) (l' := [(3, .int (nI (j9 + 1))), (2, .int (s9 + ((mX12_proofNow μ).1 396 (387 + (nI j9)).toNatClampNeg))), (0, .ref (ω.2.2 395)), (1, .int (fX12_proofNow μ))]) 3 dX12_isProved_41 rfl rfl (nI_succ j9).symm (rj_bl rfl) rfl ?_
        refine rj_goto dX12_isProved_44 rfl ?_
        have e : bX12_isProved_9 μ j9 s9 = (s9 + ((mX12_proofNow μ).1 396 (387 + (nI j9)).toNatClampNeg)) := by unfold bX12_isProved_9; rw [if_pos h2]; try rfl
        exact rj_sub (l' := [(0, .ref (ω.2.2 395)), (1, .int (fX12_proofNow μ)), (2, .int (s9 + ((mX12_proofNow μ).1 396 (387 + (nI j9)).toNatClampNeg))), (3, .int (nI (j9 + 1)))]) [2, 3, 1, 0] rfl (ih (j9 + 1) (s9 + ((mX12_proofNow μ).1 396 (387 + (nI j9)).toNatClampNeg)) (by omega) (by rw [rj_fo_s (r := r), e] at K; exact K))
noncomputable def fX12_isProved (μ : rj_M) : Int32 := (if (rj_fo (bX12_isProved_9 μ) 24 0 0) = (fX12_helpersNow (mX12_proofNow μ)) then 1 else 0)
noncomputable def mX12_isProved (μ : rj_M) : rj_M := (if (rj_fo (bX12_isProved_9 μ) 24 0 0) = (fX12_helpersNow (mX12_proofNow μ)) then (mX12_helpersNow (mX12_proofNow μ)) else (mX12_helpersNow (mX12_proofNow μ)))
noncomputable def qX12_isProved (μ : rj_M) : Prop := (qX12_proofNow μ ∧ (qX12_helpersNow (mX12_proofNow μ) ∧ True))
set_option maxHeartbeats 40000000 in
set_option maxRecDepth 100000 in
theorem sX12_isProved {g : rj_G} {ω : rj_W} (hω : rj_ok ω) (μ : rj_M)   (hq : qX12_isProved μ) : rj_Sp g yX12_isProved wsX12_isProved (rj_rm 28 0) [.ref (ω.2.2 395)] ω μ (rj_D (.inl (some (.int (fX12_isProved μ)))) ω (mX12_isProved μ)) := by
  have hqa := hq
  unfold qX12_isProved at hqa
  refine rj_of' (cc := cX12_isProved) (nL := 4) (ret := (some .boolean)) (own := RX12) (l0 := [(0, .ref (ω.2.2 395))]) rfl (by decide +kernel) rfl (Nat.le_of_ble_eq_true rfl) rfl ?_
  refine rj_aload_n 0 dX12_isProved_0 rfl rfl ?_
  refine rj_cV (rest := []) (sX12_proofNow (g := g) (ω := ω) hω μ   (And.left hqa)) gX12_isProved_X12_proofNow (rj_lt hω (k := 395) rfl) (rj_sh hω ly_395) rfl rfl hVX12_proofNow ⟨Nat.le_of_ble_eq_true rfl, Nat.le_of_ble_eq_true rfl⟩ dX12_isProved_1 rfl rfl rfl (Nat.le_of_ble_eq_true rfl) rfl (Nat.le_of_ble_eq_true rfl) rfl ?_
  refine rj_istore_n (l' := [(1, .int (fX12_proofNow μ)), (0, .ref (ω.2.2 395))]) dX12_isProved_4 rfl (rj_bl rfl) rfl ?_
  refine rj_iconst (v := 0) dX12_isProved_5 rfl (by decide) ?_
  refine rj_istore_n (l' := [(2, .int 0), (1, .int (fX12_proofNow μ)), (0, .ref (ω.2.2 395))]) dX12_isProved_6 rfl (rj_bl rfl) rfl ?_
  refine rj_iconst (v := 0) dX12_isProved_7 rfl (by decide) ?_
  refine rj_istore_n (l' := [(3, .int 0), (2, .int 0), (1, .int (fX12_proofNow μ)), (0, .ref (ω.2.2 395))]) dX12_isProved_8 rfl (rj_bl rfl) rfl ?_
  refine rj_sub (l' := [(0, .ref (ω.2.2 395)), (1, .int (fX12_proofNow μ)), (2, .int 0), (3, .int (nI 0))]) [3, 2, 1, 0] rfl ?_
  refine lX12_isProved_9 hω μ      24 0 0 rfl ?_
  refine rj_iload_n 2 dX12_isProved_47 rfl rfl ?_
  refine rj_aload_n 0 dX12_isProved_48 rfl rfl ?_
  refine rj_cV (rest := [.int (rj_fo (bX12_isProved_9 μ) 24 0 0)]) (sX12_helpersNow (g := g) (ω := ω) hω (mX12_proofNow μ)   (And.left (And.right hqa))) gX12_isProved_X12_helpersNow (rj_lt hω (k := 395) rfl) (rj_sh hω ly_395) rfl rfl hVX12_helpersNow ⟨Nat.le_of_ble_eq_true rfl, Nat.le_of_ble_eq_true rfl⟩ dX12_isProved_49 rfl rfl rfl (Nat.le_of_ble_eq_true rfl) rfl (Nat.le_of_ble_eq_true rfl) rfl ?_
  refine rj_icmp_ne dX12_isProved_52 rfl rfl (fun h4 => ?_) (fun h4 => ?_)
  · skip
    refine rj_iconst (v := 0) dX12_isProved_59 rfl (by decide) ?_
    exact rj_zret dX12_isProved_60 rfl rfl (Nat.le_of_ble_eq_true rfl) (Nat.le_of_ble_eq_true rfl) ⟨(by unfold fX12_isProved; rw [if_neg h4]; try rfl), rfl, (by unfold mX12_isProved; rw [if_neg h4]; try rfl)⟩
  · skip
    refine rj_iconst (v := 1) dX12_isProved_55 rfl (by decide) ?_
    refine rj_goto dX12_isProved_56 rfl ?_
    exact rj_zret dX12_isProved_60 rfl rfl (Nat.le_of_ble_eq_true rfl) (Nat.le_of_ble_eq_true rfl) ⟨(by unfold fX12_isProved; rw [if_pos h4]; try rfl), rfl, (by unfold mX12_isProved; rw [if_pos h4]; try rfl)⟩
theorem nX12_isProved (μ : rj_M) : narrow .boolean (.int (fX12_isProved μ)) = .int (fX12_isProved μ) := by
  unfold fX12_isProved
  split
  · rfl
  · rfl
