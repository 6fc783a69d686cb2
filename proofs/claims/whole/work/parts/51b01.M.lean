theorem hSX12_findsPrices : yX12_findsPrices.cls ≠ "java/lang/invoke/MethodHandle" ∧ yX12_findsPrices.cls ≠ "java/lang/invoke/VarHandle" ∧ (parseMethodDescriptor yX12_findsPrices.desc).map (fun d => d.parameters.length) = some 2 := by decide +kernel
theorem hVX12_findsPrices : yX12_findsPrices.cls = RX12 ∧ yX12_findsPrices.cls ≠ "java/lang/invoke/MethodHandle" ∧ yX12_findsPrices.cls ≠ "java/lang/invoke/VarHandle" ∧ (parseMethodDescriptor yX12_findsPrices.desc).map (fun d => d.parameters.length) = some 2 := by decide +kernel
theorem vX12_findsPrices_12 : ∀ w ∈ u_ws RX12 TX12 16, w ∈ wsX12_findsPrices := by decide +kernel
theorem kX12_findsPrices_18 : Cond.fieldLink RX12 18 (TX12 6).1 (TX12 6).2.1 (TX12 6).2.2.1 ∈ wsX12_findsPrices := by decide +kernel
theorem jX12_findsPrices_140_0 : Cond.methodLink RX12 140 Lib.Math.max.name ∈ wsX12_findsPrices := by decide +kernel
theorem jX12_findsPrices_140_1 : Cond.static Lib.Math.max.name ∈ wsX12_findsPrices := by decide +kernel
theorem jX12_findsPrices_140_2 : Cond.initialized "java/lang/Math" ∈ wsX12_findsPrices := by decide +kernel
theorem jX12_findsPrices_140_3 : Cond.code Lib.Math.max.name Lib.Math.max.code 2 (some .int) ∈ wsX12_findsPrices := by decide +kernel
noncomputable def bX12_findsPrices_2 (μ : rj_M) (a0 : Int32) (a1 : Int32) (j2 : Nat) (s2 : rj_M) : rj_M := (if (fX12_isWished s2 a0 a1 (nI j2)) = 0 then (rj_pi s2 406 (nI j2).toNatClampNeg 0) else (rj_pi s2 406 (nI j2).toNatClampNeg (fX12_wishOf s2 a0 (nI j2))))
set_option maxHeartbeats 4000000 in
set_option maxRecDepth 100000 in
theorem lX12_findsPrices_2 {g : rj_G} {ω : rj_W} (hω : rj_ok ω) (μ : rj_M) (a0 : Int32) (a1 : Int32)     (hp_a0 : (vp_in a0 12)) {F : rj_F} : ∀ (r j : Nat) (s : rj_M), j + r = 16 → (rj_R g RX12 cX12_findsPrices 6 none wsX12_findsPrices [] (rj_rm 3 0) F 0 ω (rj_fo (bX12_findsPrices_2 μ a0 a1) r j s) [(0, .ref (ω.2.2 395)), (1, .int a0), (2, .int a1), (3, .int (nI 16))] 40 []) → rj_R g RX12 cX12_findsPrices 6 none wsX12_findsPrices [] (rj_rm 3 0) F 0 ω s [(0, .ref (ω.2.2 395)), (1, .int a0), (2, .int a1), (3, .int (nI j))] 2 [] := by
  intro r
  induction r with
  | zero =>
    intro j s hj K
    have e0 : j = 16 := by omega
    have hge : 16 ≤ nI j := by
      rw [e0]
      exact Int32.le_refl _
    refine rj_iload_n 3 dX12_findsPrices_2 rfl rfl ?_
    refine rj_bipush (v := 16) dX12_findsPrices_3 rfl (by decide) ?_
    refine rj_icmp_ge dX12_findsPrices_5 rfl rfl (fun h3 => ?_) (fun h3 => ?_)
    · have e1 : nI j = nI 16 := by rw [e0]
      rw [e1]
      exact K
    · exact absurd hge h3
  | succ r ih =>
    intro j2 s2 hj K
    have hl2 : j2 < 16 := by omega
    have hg2 : ¬ 16 ≤ nI j2 := nI_ge hl2 (rj_bl rfl)
    refine rj_iload_n 3 dX12_findsPrices_2 rfl rfl ?_
    refine rj_bipush (v := 16) dX12_findsPrices_3 rfl (by decide) ?_
    refine rj_icmp_ge dX12_findsPrices_5 rfl rfl (fun h1 => ?_) (fun h1 => ?_)
    · exact absurd h1 hg2
    · refine rj_aload_n 0 dX12_findsPrices_8 rfl rfl ?_
      refine rj_getR (C0 := RX12) (T := TX12) (N := 16) (j := 6) (r := 406) dX12_findsPrices_9 rfl vX12_findsPrices_12 rfl (rj_lt hω (k := 395) rfl) (rj_sh hω ly_395) (by decide) kX12_findsPrices_18 rfl ?_
      refine rj_iload_n 3 dX12_findsPrices_12 rfl rfl ?_
      refine rj_aload_n 0 dX12_findsPrices_13 rfl rfl ?_
      refine rj_iload_n 1 dX12_findsPrices_14 rfl rfl ?_
      refine rj_iload_n 2 dX12_findsPrices_15 rfl rfl ?_
      refine rj_iload_n 3 dX12_findsPrices_16 rfl rfl ?_
      refine rj_cV (rest := [.int (nI j2), .ref (ω.2.2 406)]) (sX12_isWished (g := g) (ω := ω) hω s2 a0 a1 (nI j2)  hp_a0 ) gX12_findsPrices_X12_isWished (rj_lt hω (k := 395) rfl) (rj_sh hω ly_395) rfl rfl hVX12_isWished ⟨Nat.le_of_ble_eq_true rfl, Nat.le_of_ble_eq_true rfl⟩ dX12_findsPrices_17 rfl rfl rfl (Nat.le_of_ble_eq_true rfl) rfl (Nat.le_of_ble_eq_true rfl) rfl ?_
      refine rj_if_eq dX12_findsPrices_20 rfl rfl (fun h2 => ?_) (fun h2 => ?_)
      · skip
        refine rj_iconst (v := 0) dX12_findsPrices_32 rfl (by decide) ?_
        refine rj_iast dX12_findsPrices_33 rfl (rj_lt hω (k := 406) rfl) (rj_sh hω ly_406) (vp_in_nI hl2 (rj_bl rfl)) ?_
        refine rj_iinc (v := nI (j2 + 1)) (l' := [(3, .int (nI (j2 + 1))), (0, .ref (ω.2.2 395)), (1, .int a0), (2, .int a1)]) 3 dX12_findsPrices_34 rfl rfl (nI_succ j2).symm (rj_bl rfl) rfl ?_
        refine rj_goto dX12_findsPrices_37 rfl ?_
        have e : bX12_findsPrices_2 μ a0 a1 j2 s2 = (rj_pi s2 406 (nI j2).toNatClampNeg 0) := by unfold bX12_findsPrices_2; rw [if_pos h2]; try rfl
        exact rj_sub (l' := [(0, .ref (ω.2.2 395)), (1, .int a0), (2, .int a1), (3, .int (nI (j2 + 1)))]) [1, 2, 3, 0] rfl (ih (j2 + 1) (rj_pi s2 406 (nI j2).toNatClampNeg 0) (by omega) (by rw [rj_fo_s, e] at K; exact K))
      · skip
        refine rj_aload_n 0 dX12_findsPrices_23 rfl rfl ?_
        refine rj_iload_n 1 dX12_findsPrices_24 rfl rfl ?_
        refine rj_iload_n 3 dX12_findsPrices_25 rfl rfl ?_
        refine rj_cV (rest := [.int (nI j2), .ref (ω.2.2 406)]) (sX12_wishOf (g := g) (ω := ω) hω s2 a0 (nI j2)  hp_a0 (vp_in_nI hl2 (rj_bl rfl)) ) gX12_findsPrices_X12_wishOf (rj_lt hω (k := 395) rfl) (rj_sh hω ly_395) rfl rfl hVX12_wishOf ⟨Nat.le_of_ble_eq_true rfl, Nat.le_of_ble_eq_true rfl⟩ dX12_findsPrices_26 rfl rfl rfl (Nat.le_of_ble_eq_true rfl) rfl (Nat.le_of_ble_eq_true rfl) rfl ?_
        refine rj_goto dX12_findsPrices_29 rfl ?_
        refine rj_iast dX12_findsPrices_33 rfl (rj_lt hω (k := 406) rfl) (rj_sh hω ly_406) (vp_in_nI hl2 (rj_bl rfl)) ?_
        refine rj_iinc (v := nI (j2 + 1)) (l' := [(3, .int (nI (j2 + 1))), (0, .ref (ω.2.2 395)), (1, .int a0), (2, .int a1)]) 3 dX12_findsPrices_34 rfl rfl (nI_succ j2).symm (rj_bl rfl) rfl ?_
        refine rj_goto dX12_findsPrices_37 rfl ?_
        have e : bX12_findsPrices_2 μ a0 a1 j2 s2 = (rj_pi s2 406 (nI j2).toNatClampNeg (fX12_wishOf s2 a0 (nI j2))) := by unfold bX12_findsPrices_2; rw [if_neg h2]; try rfl
        exact rj_sub (l' := [(0, .ref (ω.2.2 395)), (1, .int a0), (2, .int a1), (3, .int (nI (j2 + 1)))]) [1, 2, 3, 0] rfl (ih (j2 + 1) (rj_pi s2 406 (nI j2).toNatClampNeg (fX12_wishOf s2 a0 (nI j2))) (by omega) (by rw [rj_fo_s, e] at K; exact K))
noncomputable def bX12_findsPrices_61 (μ : rj_M) (a0 : Int32) (a1 : Int32) (j42 : Nat) (s42 : rj_M) (j51 : Nat) (s51 : rj_M) (j61 : Nat) (s61 : rj_M) : rj_M := (if (s61.1 406 (nI j51).toNatClampNeg) ≤ 0 then s61 else (if (s61.1 406 (nI j61).toNatClampNeg) ≤ 0 then s61 else (if (fX12_isReached s61 (nI j61) (nI j51)) = 0 then s61 else (rj_pi s61 406 (nI j51).toNatClampNeg (if (s61.1 406 (nI j51).toNatClampNeg) < ((fX12_wishOf s61 a0 (nI j51)) + (s61.1 406 (nI j61).toNatClampNeg)) then ((fX12_wishOf s61 a0 (nI j51)) + (s61.1 406 (nI j61).toNatClampNeg)) else (s61.1 406 (nI j51).toNatClampNeg))))))
noncomputable def qX12_findsPrices_61 (μ : rj_M) (a0 : Int32) (a1 : Int32) (j42 : Nat) (s42 : rj_M) (j51 : Nat) (s51 : rj_M) (j61 : Nat) (s61 : rj_M) : Prop := ((((s61.1 406 (nI j51).toNatClampNeg) ≤ 0) → True) ∧ ((¬ ((s61.1 406 (nI j51).toNatClampNeg) ≤ 0)) → ((((s61.1 406 (nI j61).toNatClampNeg) ≤ 0) → True) ∧ ((¬ ((s61.1 406 (nI j61).toNatClampNeg) ≤ 0)) → (qX12_isReached s61 (nI j61) (nI j51) ∧ True)))))
set_option maxHeartbeats 4000000 in
set_option maxRecDepth 100000 in
theorem lX12_findsPrices_61 {g : rj_G} {ω : rj_W} (hω : rj_ok ω) (μ : rj_M) (a0 : Int32) (a1 : Int32) (j42 : Nat) (s42 : rj_M) (j51 : Nat) (s51 : rj_M)   (hl42 : j42 < 16) (hl51 : j51 < 16)  (hp_a0 : (vp_in a0 12)) (h4 : ¬ (16 ≤ nI j42)) (h5 : ¬ (16 ≤ nI j51)) {F : rj_F} : ∀ (r j : Nat) (s : rj_M), j + r = 16 → (True → ra_fo (qX12_findsPrices_61 μ a0 a1 j42 s42 j51 s51) (bX12_findsPrices_61 μ a0 a1 j42 s42 j51 s51) r j s) → (rj_R g RX12 cX12_findsPrices 6 none wsX12_findsPrices [] (rj_rm 3 0) F 0 ω (rj_fo (bX12_findsPrices_61 μ a0 a1 j42 s42 j51 s51) r j s) [(0, .ref (ω.2.2 395)), (1, .int a0), (2, .int a1), (3, .int (nI j42)), (4, .int (nI j51)), (5, .int (nI 16))] 137 []) → rj_R g RX12 cX12_findsPrices 6 none wsX12_findsPrices [] (rj_rm 3 0) F 0 ω s [(0, .ref (ω.2.2 395)), (1, .int a0), (2, .int a1), (3, .int (nI j42)), (4, .int (nI j51)), (5, .int (nI j))] 61 [] := by
  intro r
  induction r with
  | zero =>
    intro j s hj hq0 K
    have e0 : j = 16 := by omega
    have hge : 16 ≤ nI j := by
      rw [e0]
      exact Int32.le_refl _
    refine rj_iload 5 dX12_findsPrices_61 rfl rfl ?_
    refine rj_bipush (v := 16) dX12_findsPrices_63 rfl (by decide) ?_
    refine rj_icmp_ge dX12_findsPrices_65 rfl rfl (fun h10 => ?_) (fun h10 => ?_)
    · have e1 : nI j = nI 16 := by rw [e0]
      rw [e1]
      exact K
    · exact absurd hge h10
  | succ r ih =>
    intro j61 s61 hj hq0 K
    have hl61 : j61 < 16 := by omega
    have hg61 : ¬ 16 ≤ nI j61 := nI_ge hl61 (rj_bl rfl)
    have hqa := ra_fo_q (hq0 True.intro)
    unfold qX12_findsPrices_61 at hqa
    refine rj_iload 5 dX12_findsPrices_61 rfl rfl ?_
    refine rj_bipush (v := 16) dX12_findsPrices_63 rfl (by decide) ?_
    refine rj_icmp_ge dX12_findsPrices_65 rfl rfl (fun h6 => ?_) (fun h6 => ?_)
    · exact absurd h6 hg61
    · refine rj_aload_n 0 dX12_findsPrices_68 rfl rfl ?_
      refine rj_getR (C0 := RX12) (T := TX12) (N := 16) (j := 6) (r := 406) dX12_findsPrices_69 rfl vX12_findsPrices_12 rfl (rj_lt hω (k := 395) rfl) (rj_sh hω ly_395) (by decide) kX12_findsPrices_18 rfl ?_
      refine rj_iload 4 dX12_findsPrices_72 rfl rfl ?_
      refine rj_iald dX12_findsPrices_74 rfl (rj_lt hω (k := 406) rfl) (rj_sh hω ly_406) (vp_in_nI hl51 (rj_bl rfl)) ?_
      refine rj_if_le dX12_findsPrices_75 rfl rfl (fun h7 => ?_) (fun h7 => ?_)
      · skip
        refine rj_iinc (v := nI (j61 + 1)) (l' := [(5, .int (nI (j61 + 1))), (0, .ref (ω.2.2 395)), (1, .int a0), (2, .int a1), (3, .int (nI j42)), (4, .int (nI j51))]) 5 dX12_findsPrices_131 rfl rfl (nI_succ j61).symm (rj_bl rfl) rfl ?_
        refine rj_goto dX12_findsPrices_134 rfl ?_
        have e : bX12_findsPrices_61 μ a0 a1 j42 s42 j51 s51 j61 s61 = s61 := by unfold bX12_findsPrices_61; rw [if_pos h7]; try rfl
        exact rj_sub (l' := [(0, .ref (ω.2.2 395)), (1, .int a0), (2, .int a1), (3, .int (nI j42)), (4, .int (nI j51)), (5, .int (nI (j61 + 1)))]) [1, 2, 3, 4, 5, 0] rfl (ih (j61 + 1) s61 (by omega) (fun _ => ra_fo_n (hq0 True.intro) e) (by rw [rj_fo_s, e] at K; exact K))
      · have hq4 := (And.right hqa) h7
        refine rj_aload_n 0 dX12_findsPrices_78 rfl rfl ?_
        refine rj_getR (C0 := RX12) (T := TX12) (N := 16) (j := 6) (r := 406) dX12_findsPrices_79 rfl vX12_findsPrices_12 rfl (rj_lt hω (k := 395) rfl) (rj_sh hω ly_395) (by decide) kX12_findsPrices_18 rfl ?_
        refine rj_iload 5 dX12_findsPrices_82 rfl rfl ?_
        refine rj_iald dX12_findsPrices_84 rfl (rj_lt hω (k := 406) rfl) (rj_sh hω ly_406) (vp_in_nI hl61 (rj_bl rfl)) ?_
        refine rj_if_le dX12_findsPrices_85 rfl rfl (fun h8 => ?_) (fun h8 => ?_)
        · skip
          refine rj_iinc (v := nI (j61 + 1)) (l' := [(5, .int (nI (j61 + 1))), (0, .ref (ω.2.2 395)), (1, .int a0), (2, .int a1), (3, .int (nI j42)), (4, .int (nI j51))]) 5 dX12_findsPrices_131 rfl rfl (nI_succ j61).symm (rj_bl rfl) rfl ?_
          refine rj_goto dX12_findsPrices_134 rfl ?_
          have e : bX12_findsPrices_61 μ a0 a1 j42 s42 j51 s51 j61 s61 = s61 := by unfold bX12_findsPrices_61; rw [if_neg h7]; rw [if_pos h8]; try rfl
          exact rj_sub (l' := [(0, .ref (ω.2.2 395)), (1, .int a0), (2, .int a1), (3, .int (nI j42)), (4, .int (nI j51)), (5, .int (nI (j61 + 1)))]) [1, 2, 3, 4, 5, 0] rfl (ih (j61 + 1) s61 (by omega) (fun _ => ra_fo_n (hq0 True.intro) e) (by rw [rj_fo_s, e] at K; exact K))
        · have hq6 := (And.right hq4) h8
          refine rj_aload_n 0 dX12_findsPrices_88 rfl rfl ?_
          refine rj_iload 5 dX12_findsPrices_89 rfl rfl ?_
          refine rj_iload 4 dX12_findsPrices_91 rfl rfl ?_
          refine rj_cV (rest := []) (sX12_isReached (g := g) (ω := ω) hω s61 (nI j61) (nI j51)  (vp_in_nI hl61 (rj_bl rfl)) (vp_in_nI hl51 (rj_bl rfl)) (And.left hq6)) gX12_findsPrices_X12_isReached (rj_lt hω (k := 395) rfl) (rj_sh hω ly_395) rfl rfl hVX12_isReached ⟨Nat.le_of_ble_eq_true rfl, Nat.le_of_ble_eq_true rfl⟩ dX12_findsPrices_93 rfl rfl rfl (Nat.le_of_ble_eq_true rfl) rfl (Nat.le_of_ble_eq_true rfl) rfl ?_
          refine rj_if_eq dX12_findsPrices_96 rfl rfl (fun h9 => ?_) (fun h9 => ?_)
          · skip
            refine rj_iinc (v := nI (j61 + 1)) (l' := [(5, .int (nI (j61 + 1))), (0, .ref (ω.2.2 395)), (1, .int a0), (2, .int a1), (3, .int (nI j42)), (4, .int (nI j51))]) 5 dX12_findsPrices_131 rfl rfl (nI_succ j61).symm (rj_bl rfl) rfl ?_
            refine rj_goto dX12_findsPrices_134 rfl ?_
            have e : bX12_findsPrices_61 μ a0 a1 j42 s42 j51 s51 j61 s61 = s61 := by unfold bX12_findsPrices_61; rw [if_neg h7]; rw [if_neg h8]; rw [if_pos h9]; try rfl
            exact rj_sub (l' := [(0, .ref (ω.2.2 395)), (1, .int a0), (2, .int a1), (3, .int (nI j42)), (4, .int (nI j51)), (5, .int (nI (j61 + 1)))]) [1, 2, 3, 4, 5, 0] rfl (ih (j61 + 1) s61 (by omega) (fun _ => ra_fo_n (hq0 True.intro) e) (by rw [rj_fo_s, e] at K; exact K))
          · skip
            refine rj_aload_n 0 dX12_findsPrices_99 rfl rfl ?_
            refine rj_getR (C0 := RX12) (T := TX12) (N := 16) (j := 6) (r := 406) dX12_findsPrices_100 rfl vX12_findsPrices_12 rfl (rj_lt hω (k := 395) rfl) (rj_sh hω ly_395) (by decide) kX12_findsPrices_18 rfl ?_
            refine rj_iload 4 dX12_findsPrices_103 rfl rfl ?_
            refine rj_aload_n 0 dX12_findsPrices_105 rfl rfl ?_
            refine rj_getR (C0 := RX12) (T := TX12) (N := 16) (j := 6) (r := 406) dX12_findsPrices_106 rfl vX12_findsPrices_12 rfl (rj_lt hω (k := 395) rfl) (rj_sh hω ly_395) (by decide) kX12_findsPrices_18 rfl ?_
            refine rj_iload 4 dX12_findsPrices_109 rfl rfl ?_
            refine rj_iald dX12_findsPrices_111 rfl (rj_lt hω (k := 406) rfl) (rj_sh hω ly_406) (vp_in_nI hl51 (rj_bl rfl)) ?_
            refine rj_aload_n 0 dX12_findsPrices_112 rfl rfl ?_
            refine rj_iload_n 1 dX12_findsPrices_113 rfl rfl ?_
            refine rj_iload 4 dX12_findsPrices_114 rfl rfl ?_
            refine rj_cV (rest := [.int (s61.1 406 (nI j51).toNatClampNeg), .int (nI j51), .ref (ω.2.2 406)]) (sX12_wishOf (g := g) (ω := ω) hω s61 a0 (nI j51)  hp_a0 (vp_in_nI hl51 (rj_bl rfl)) ) gX12_findsPrices_X12_wishOf (rj_lt hω (k := 395) rfl) (rj_sh hω ly_395) rfl rfl hVX12_wishOf ⟨Nat.le_of_ble_eq_true rfl, Nat.le_of_ble_eq_true rfl⟩ dX12_findsPrices_116 rfl rfl rfl (Nat.le_of_ble_eq_true rfl) rfl (Nat.le_of_ble_eq_true rfl) rfl ?_
            refine rj_aload_n 0 dX12_findsPrices_119 rfl rfl ?_
            refine rj_getR (C0 := RX12) (T := TX12) (N := 16) (j := 6) (r := 406) dX12_findsPrices_120 rfl vX12_findsPrices_12 rfl (rj_lt hω (k := 395) rfl) (rj_sh hω ly_395) (by decide) kX12_findsPrices_18 rfl ?_
            refine rj_iload 5 dX12_findsPrices_123 rfl rfl ?_
            refine rj_iald dX12_findsPrices_125 rfl (rj_lt hω (k := 406) rfl) (rj_sh hω ly_406) (vp_in_nI hl61 (rj_bl rfl)) ?_
            refine rj_iadd dX12_findsPrices_126 rfl ?_
            refine rj_mmax dX12_findsPrices_127 rfl jX12_findsPrices_140_0 jX12_findsPrices_140_1 jX12_findsPrices_140_2 jX12_findsPrices_140_3 (Nat.le_of_ble_eq_true rfl) (Nat.le_of_ble_eq_true rfl) (Nat.le_of_ble_eq_true rfl) (Nat.le_of_ble_eq_true rfl) ?_
            refine rj_iast dX12_findsPrices_130 rfl (rj_lt hω (k := 406) rfl) (rj_sh hω ly_406) (vp_in_nI hl51 (rj_bl rfl)) ?_
            refine rj_iinc (v := nI (j61 + 1)) (l' := [(5, .int (nI (j61 + 1))), (0, .ref (ω.2.2 395)), (1, .int a0), (2, .int a1), (3, .int (nI j42)), (4, .int (nI j51))]) 5 dX12_findsPrices_131 rfl rfl (nI_succ j61).symm (rj_bl rfl) rfl ?_
            refine rj_goto dX12_findsPrices_134 rfl ?_
            have e : bX12_findsPrices_61 μ a0 a1 j42 s42 j51 s51 j61 s61 = (rj_pi s61 406 (nI j51).toNatClampNeg (if (s61.1 406 (nI j51).toNatClampNeg) < ((fX12_wishOf s61 a0 (nI j51)) + (s61.1 406 (nI j61).toNatClampNeg)) then ((fX12_wishOf s61 a0 (nI j51)) + (s61.1 406 (nI j61).toNatClampNeg)) else (s61.1 406 (nI j51).toNatClampNeg))) := by unfold bX12_findsPrices_61; rw [if_neg h7]; rw [if_neg h8]; rw [if_neg h9]; try rfl
            exact rj_sub (l' := [(0, .ref (ω.2.2 395)), (1, .int a0), (2, .int a1), (3, .int (nI j42)), (4, .int (nI j51)), (5, .int (nI (j61 + 1)))]) [1, 2, 3, 4, 5, 0] rfl (ih (j61 + 1) (rj_pi s61 406 (nI j51).toNatClampNeg (if (s61.1 406 (nI j51).toNatClampNeg) < ((fX12_wishOf s61 a0 (nI j51)) + (s61.1 406 (nI j61).toNatClampNeg)) then ((fX12_wishOf s61 a0 (nI j51)) + (s61.1 406 (nI j61).toNatClampNeg)) else (s61.1 406 (nI j51).toNatClampNeg))) (by omega) (fun _ => ra_fo_n (hq0 True.intro) e) (by rw [rj_fo_s, e] at K; exact K))
noncomputable def bX12_findsPrices_51 (μ : rj_M) (a0 : Int32) (a1 : Int32) (j42 : Nat) (s42 : rj_M) (j51 : Nat) (s51 : rj_M) : rj_M := (rj_fo (bX12_findsPrices_61 μ a0 a1 j42 s42 j51 s51) 16 0 s51)
noncomputable def qX12_findsPrices_51 (μ : rj_M) (a0 : Int32) (a1 : Int32) (j42 : Nat) (s42 : rj_M) (j51 : Nat) (s51 : rj_M) : Prop := ((True → ra_fo (qX12_findsPrices_61 μ a0 a1 j42 s42 j51 s51) (bX12_findsPrices_61 μ a0 a1 j42 s42 j51 s51) 16 0 s51) ∧ True)
set_option maxHeartbeats 4000000 in
set_option maxRecDepth 100000 in
theorem lX12_findsPrices_51 {g : rj_G} {ω : rj_W} (hω : rj_ok ω) (μ : rj_M) (a0 : Int32) (a1 : Int32) (j42 : Nat) (s42 : rj_M)   (hl42 : j42 < 16)  (hp_a0 : (vp_in a0 12)) (h4 : ¬ (16 ≤ nI j42)) {F : rj_F} : ∀ (r j : Nat) (s : rj_M), j + r = 16 → (True → ra_fo (qX12_findsPrices_51 μ a0 a1 j42 s42) (bX12_findsPrices_51 μ a0 a1 j42 s42) r j s) → (rj_R g RX12 cX12_findsPrices 6 none wsX12_findsPrices [] (rj_rm 3 0) F 0 ω (rj_fo (bX12_findsPrices_51 μ a0 a1 j42 s42) r j s) [(0, .ref (ω.2.2 395)), (1, .int a0), (2, .int a1), (3, .int (nI j42)), (4, .int (nI 16))] 143 []) → rj_R g RX12 cX12_findsPrices 6 none wsX12_findsPrices [] (rj_rm 3 0) F 0 ω s [(0, .ref (ω.2.2 395)), (1, .int a0), (2, .int a1), (3, .int (nI j42)), (4, .int (nI j))] 51 [] := by
  intro r
  induction r with
  | zero =>
    intro j s hj hq0 K
    have e0 : j = 16 := by omega
    have hge : 16 ≤ nI j := by
      rw [e0]
      exact Int32.le_refl _
    refine rj_iload 4 dX12_findsPrices_51 rfl rfl ?_
    refine rj_bipush (v := 16) dX12_findsPrices_53 rfl (by decide) ?_
    refine rj_icmp_ge dX12_findsPrices_55 rfl rfl (fun h11 => ?_) (fun h11 => ?_)
    · have e1 : nI j = nI 16 := by rw [e0]
      rw [e1]
      exact K
    · exact absurd hge h11
  | succ r ih =>
    intro j51 s51 hj hq0 K
    have hl51 : j51 < 16 := by omega
    have hg51 : ¬ 16 ≤ nI j51 := nI_ge hl51 (rj_bl rfl)
    have hqa := ra_fo_q (hq0 True.intro)
    unfold qX12_findsPrices_51 at hqa
    refine rj_iload 4 dX12_findsPrices_51 rfl rfl ?_
    refine rj_bipush (v := 16) dX12_findsPrices_53 rfl (by decide) ?_
    refine rj_icmp_ge dX12_findsPrices_55 rfl rfl (fun h5 => ?_) (fun h5 => ?_)
    · exact absurd h5 hg51
    · refine rj_iconst (v := 0) dX12_findsPrices_58 rfl (by decide) ?_
      refine rj_istore (l' := [(5, .int 0), (0, .ref (ω.2.2 395)), (1, .int a0), (2, .int a1), (3, .int (nI j42)), (4, .int (nI j51))]) dX12_findsPrices_59 rfl (rj_bl rfl) rfl ?_
      refine rj_sub (l' := [(0, .ref (ω.2.2 395)), (1, .int a0), (2, .int a1), (3, .int (nI j42)), (4, .int (nI j51)), (5, .int (nI 0))]) [1, 2, 3, 4, 5, 0] rfl ?_
      refine lX12_findsPrices_61 hω μ a0 a1 j42 s42 j51 s51   hl42 hl51  hp_a0 h4 h5 16 0 s51 rfl (And.left hqa) ?_
      refine rj_iinc (v := nI (j51 + 1)) (l' := [(4, .int (nI (j51 + 1))), (0, .ref (ω.2.2 395)), (1, .int a0), (2, .int a1), (3, .int (nI j42)), (5, .int (nI 16))]) 4 dX12_findsPrices_137 rfl rfl (nI_succ j51).symm (rj_bl rfl) rfl ?_
      refine rj_goto dX12_findsPrices_140 rfl ?_
      have e : bX12_findsPrices_51 μ a0 a1 j42 s42 j51 s51 = (rj_fo (bX12_findsPrices_61 μ a0 a1 j42 s42 j51 s51) 16 0 s51) := by unfold bX12_findsPrices_51; rfl
      exact rj_sub (l' := [(0, .ref (ω.2.2 395)), (1, .int a0), (2, .int a1), (3, .int (nI j42)), (4, .int (nI (j51 + 1)))]) [1, 2, 3, 4, 0] rfl (ih (j51 + 1) (rj_fo (bX12_findsPrices_61 μ a0 a1 j42 s42 j51 s51) 16 0 s51) (by omega) (fun _ => ra_fo_n (hq0 True.intro) e) (by rw [rj_fo_s, e] at K; exact K))
noncomputable def bX12_findsPrices_42 (μ : rj_M) (a0 : Int32) (a1 : Int32) (j42 : Nat) (s42 : rj_M) : rj_M := (rj_fo (bX12_findsPrices_51 μ a0 a1 j42 s42) 16 0 s42)
noncomputable def qX12_findsPrices_42 (μ : rj_M) (a0 : Int32) (a1 : Int32) (j42 : Nat) (s42 : rj_M) : Prop := ((True → ra_fo (qX12_findsPrices_51 μ a0 a1 j42 s42) (bX12_findsPrices_51 μ a0 a1 j42 s42) 16 0 s42) ∧ True)
set_option maxHeartbeats 4000000 in
set_option maxRecDepth 100000 in
theorem lX12_findsPrices_42 {g : rj_G} {ω : rj_W} (hω : rj_ok ω) (μ : rj_M) (a0 : Int32) (a1 : Int32)     (hp_a0 : (vp_in a0 12)) {F : rj_F} : ∀ (r j : Nat) (s : rj_M), j + r = 16 → (True → ra_fo (qX12_findsPrices_42 μ a0 a1) (bX12_findsPrices_42 μ a0 a1) r j s) → (rj_R g RX12 cX12_findsPrices 6 none wsX12_findsPrices [] (rj_rm 3 0) F 0 ω (rj_fo (bX12_findsPrices_42 μ a0 a1) r j s) [(0, .ref (ω.2.2 395)), (1, .int a0), (2, .int a1), (3, .int (nI 16))] 149 []) → rj_R g RX12 cX12_findsPrices 6 none wsX12_findsPrices [] (rj_rm 3 0) F 0 ω s [(0, .ref (ω.2.2 395)), (1, .int a0), (2, .int a1), (3, .int (nI j))] 42 [] := by
  intro r
  induction r with
  | zero =>
    intro j s hj hq0 K
    have e0 : j = 16 := by omega
    have hge : 16 ≤ nI j := by
      rw [e0]
      exact Int32.le_refl _
    refine rj_iload_n 3 dX12_findsPrices_42 rfl rfl ?_
    refine rj_bipush (v := 16) dX12_findsPrices_43 rfl (by decide) ?_
    refine rj_icmp_ge dX12_findsPrices_45 rfl rfl (fun h12 => ?_) (fun h12 => ?_)
    · have e1 : nI j = nI 16 := by rw [e0]
      rw [e1]
      exact K
    · exact absurd hge h12
  | succ r ih =>
    intro j42 s42 hj hq0 K
    have hl42 : j42 < 16 := by omega
    have hg42 : ¬ 16 ≤ nI j42 := nI_ge hl42 (rj_bl rfl)
    have hqa := ra_fo_q (hq0 True.intro)
    unfold qX12_findsPrices_42 at hqa
    refine rj_iload_n 3 dX12_findsPrices_42 rfl rfl ?_
    refine rj_bipush (v := 16) dX12_findsPrices_43 rfl (by decide) ?_
    refine rj_icmp_ge dX12_findsPrices_45 rfl rfl (fun h4 => ?_) (fun h4 => ?_)
    · exact absurd h4 hg42
    · refine rj_iconst (v := 0) dX12_findsPrices_48 rfl (by decide) ?_
      refine rj_istore (l' := [(4, .int 0), (0, .ref (ω.2.2 395)), (1, .int a0), (2, .int a1), (3, .int (nI j42))]) dX12_findsPrices_49 rfl (rj_bl rfl) rfl ?_
      refine rj_sub (l' := [(0, .ref (ω.2.2 395)), (1, .int a0), (2, .int a1), (3, .int (nI j42)), (4, .int (nI 0))]) [1, 2, 3, 4, 0] rfl ?_
      refine lX12_findsPrices_51 hω μ a0 a1 j42 s42   hl42  hp_a0 h4 16 0 s42 rfl (And.left hqa) ?_
      refine rj_iinc (v := nI (j42 + 1)) (l' := [(3, .int (nI (j42 + 1))), (0, .ref (ω.2.2 395)), (1, .int a0), (2, .int a1), (4, .int (nI 16))]) 3 dX12_findsPrices_143 rfl rfl (nI_succ j42).symm (rj_bl rfl) rfl ?_
      refine rj_goto dX12_findsPrices_146 rfl ?_
      have e : bX12_findsPrices_42 μ a0 a1 j42 s42 = (rj_fo (bX12_findsPrices_51 μ a0 a1 j42 s42) 16 0 s42) := by unfold bX12_findsPrices_42; rfl
      exact rj_sub (l' := [(0, .ref (ω.2.2 395)), (1, .int a0), (2, .int a1), (3, .int (nI (j42 + 1)))]) [1, 2, 3, 0] rfl (ih (j42 + 1) (rj_fo (bX12_findsPrices_51 μ a0 a1 j42 s42) 16 0 s42) (by omega) (fun _ => ra_fo_n (hq0 True.intro) e) (by rw [rj_fo_s, e] at K; exact K))
noncomputable def mX12_findsPrices (μ : rj_M) (a0 : Int32) (a1 : Int32) : rj_M := (rj_fo (bX12_findsPrices_42 μ a0 a1) 16 0 (rj_fo (bX12_findsPrices_2 μ a0 a1) 16 0 μ))
noncomputable def qX12_findsPrices (μ : rj_M) (a0 : Int32) (a1 : Int32) : Prop := ((True → ra_fo (qX12_findsPrices_42 μ a0 a1) (bX12_findsPrices_42 μ a0 a1) 16 0 (rj_fo (bX12_findsPrices_2 μ a0 a1) 16 0 μ)) ∧ True)
set_option maxHeartbeats 40000000 in
set_option maxRecDepth 100000 in
theorem sX12_findsPrices {g : rj_G} {ω : rj_W} (hω : rj_ok ω) (μ : rj_M) (a0 : Int32) (a1 : Int32)  (hp_a0 : vp_in a0 12)  (hq : qX12_findsPrices μ a0 a1) : rj_Sp g yX12_findsPrices wsX12_findsPrices (rj_rm 3 0) [.ref (ω.2.2 395), .int a0, .int a1] ω μ (rj_D (.inl none) ω (mX12_findsPrices μ a0 a1)) := by
  have hqa := hq
  unfold qX12_findsPrices at hqa
  refine rj_of' (cc := cX12_findsPrices) (nL := 6) (ret := none) (own := RX12) (l0 := [(0, .ref (ω.2.2 395)), (1, .int a0), (2, .int a1)]) rfl (by decide +kernel) rfl (Nat.le_of_ble_eq_true rfl) rfl ?_
  refine rj_iconst (v := 0) dX12_findsPrices_0 rfl (by decide) ?_
  refine rj_istore_n (l' := [(3, .int 0), (0, .ref (ω.2.2 395)), (1, .int a0), (2, .int a1)]) dX12_findsPrices_1 rfl (rj_bl rfl) rfl ?_
  refine rj_sub (l' := [(0, .ref (ω.2.2 395)), (1, .int a0), (2, .int a1), (3, .int (nI 0))]) [1, 2, 3, 0] rfl ?_
  refine lX12_findsPrices_2 hω μ a0 a1     hp_a0 16 0 μ rfl ?_
  refine rj_iconst (v := 0) dX12_findsPrices_40 rfl (by decide) ?_
  refine rj_istore_n (l' := [(3, .int 0), (0, .ref (ω.2.2 395)), (1, .int a0), (2, .int a1)]) dX12_findsPrices_41 rfl (rj_bl rfl) rfl ?_
  refine rj_sub (l' := [(0, .ref (ω.2.2 395)), (1, .int a0), (2, .int a1), (3, .int (nI 0))]) [1, 2, 3, 0] rfl ?_
  refine lX12_findsPrices_42 hω μ a0 a1     hp_a0 16 0 (rj_fo (bX12_findsPrices_2 μ a0 a1) 16 0 μ) rfl (And.left hqa) ?_
  exact rj_vret dX12_findsPrices_149 rfl (Nat.le_of_ble_eq_true rfl) (Nat.le_of_ble_eq_true rfl) ⟨rfl, rfl, (by unfold mX12_findsPrices; rfl)⟩
theorem hSX12_findsEvening : yX12_findsEvening.cls ≠ "java/lang/invoke/MethodHandle" ∧ yX12_findsEvening.cls ≠ "java/lang/invoke/VarHandle" ∧ (parseMethodDescriptor yX12_findsEvening.desc).map (fun d => d.parameters.length) = some 2 := by decide +kernel
theorem hVX12_findsEvening : yX12_findsEvening.cls = RX12 ∧ yX12_findsEvening.cls ≠ "java/lang/invoke/MethodHandle" ∧ yX12_findsEvening.cls ≠ "java/lang/invoke/VarHandle" ∧ (parseMethodDescriptor yX12_findsEvening.desc).map (fun d => d.parameters.length) = some 2 := by decide +kernel
theorem vX12_findsEvening_12 : ∀ w ∈ u_ws RX12 TX12 16, w ∈ wsX12_findsEvening := by decide +kernel
theorem kX12_findsEvening_18 : Cond.fieldLink RX12 18 (TX12 6).1 (TX12 6).2.1 (TX12 6).2.2.1 ∈ wsX12_findsEvening := by decide +kernel
theorem jX12_findsEvening_140_0 : Cond.methodLink RX12 140 Lib.Math.max.name ∈ wsX12_findsEvening := by decide +kernel
theorem jX12_findsEvening_140_1 : Cond.static Lib.Math.max.name ∈ wsX12_findsEvening := by decide +kernel
theorem jX12_findsEvening_140_2 : Cond.initialized "java/lang/Math" ∈ wsX12_findsEvening := by decide +kernel
theorem jX12_findsEvening_140_3 : Cond.code Lib.Math.max.name Lib.Math.max.code 2 (some .int) ∈ wsX12_findsEvening := by decide +kernel
theorem kX12_findsEvening_163 : Cond.fieldLink RX12 163 (TX12 8).1 (TX12 8).2.1 (TX12 8).2.2.1 ∈ wsX12_findsEvening := by decide +kernel
theorem kX12_findsEvening_21 : Cond.fieldLink RX12 21 (TX12 7).1 (TX12 7).2.1 (TX12 7).2.2.1 ∈ wsX12_findsEvening := by decide +kernel
noncomputable def bX12_findsEvening_11 (μ : rj_M) (a0 : Int32) (a1 : Int32) (j11 : Nat) (s11 : Int32) : Int32 := (if s11 < ((mX12_findsPrices μ a0 a1).1 406 (nI j11).toNatClampNeg) then ((mX12_findsPrices μ a0 a1).1 406 (nI j11).toNatClampNeg) else s11)
set_option maxHeartbeats 4000000 in
set_option maxRecDepth 100000 in
theorem lX12_findsEvening_11 {g : rj_G} {ω : rj_W} (hω : rj_ok ω) (μ : rj_M) (a0 : Int32) (a1 : Int32)     (hp_a0 : (vp_in a0 12)) {F : rj_F} : ∀ (r j : Nat) (s : Int32), j + r = 16 → (rj_R g RX12 cX12_findsEvening 6 (some .int) wsX12_findsEvening [] (rj_rm 4 0) F 0 ω (mX12_findsPrices μ a0 a1) [(0, .ref (ω.2.2 395)), (1, .int a0), (2, .int a1), (3, .int (rj_fo (bX12_findsEvening_11 μ a0 a1) r j s)), (4, .int (nI 16))] 36 []) → rj_R g RX12 cX12_findsEvening 6 (some .int) wsX12_findsEvening [] (rj_rm 4 0) F 0 ω (mX12_findsPrices μ a0 a1) [(0, .ref (ω.2.2 395)), (1, .int a0), (2, .int a1), (3, .int s), (4, .int (nI j))] 11 [] := by
  intro r
  induction r with
  | zero =>
    intro j s hj K
    have e0 : j = 16 := by omega
    have hge : 16 ≤ nI j := by
      rw [e0]
      exact Int32.le_refl _
    refine rj_iload 4 dX12_findsEvening_11 rfl rfl ?_
    refine rj_bipush (v := 16) dX12_findsEvening_13 rfl (by decide) ?_
    refine rj_icmp_ge dX12_findsEvening_15 rfl rfl (fun h2 => ?_) (fun h2 => ?_)
    · have e1 : nI j = nI 16 := by rw [e0]
      rw [e1]
      exact K
    · exact absurd hge h2
  | succ r ih =>
    intro j11 s11 hj K
    have hl11 : j11 < 16 := by omega
    have hg11 : ¬ 16 ≤ nI j11 := nI_ge hl11 (rj_bl rfl)
    refine rj_iload 4 dX12_findsEvening_11 rfl rfl ?_
    refine rj_bipush (v := 16) dX12_findsEvening_13 rfl (by decide) ?_
    refine rj_icmp_ge dX12_findsEvening_15 rfl rfl (fun h1 => ?_) (fun h1 => ?_)
    · exact absurd h1 hg11
    · refine rj_iload_n 3 dX12_findsEvening_18 rfl rfl ?_
      refine rj_aload_n 0 dX12_findsEvening_19 rfl rfl ?_
      refine rj_getR (C0 := RX12) (T := TX12) (N := 16) (j := 6) (r := 406) dX12_findsEvening_20 rfl vX12_findsEvening_12 rfl (rj_lt hω (k := 395) rfl) (rj_sh hω ly_395) (by decide) kX12_findsEvening_18 rfl ?_
      refine rj_iload 4 dX12_findsEvening_23 rfl rfl ?_
      refine rj_iald dX12_findsEvening_25 rfl (rj_lt hω (k := 406) rfl) (rj_sh hω ly_406) (vp_in_nI hl11 (rj_bl rfl)) ?_
      refine rj_mmax dX12_findsEvening_26 rfl jX12_findsEvening_140_0 jX12_findsEvening_140_1 jX12_findsEvening_140_2 jX12_findsEvening_140_3 (Nat.le_of_ble_eq_true rfl) (Nat.le_of_ble_eq_true rfl) (Nat.le_of_ble_eq_true rfl) (Nat.le_of_ble_eq_true rfl) ?_
      refine rj_istore_n (l' := [(3, .int (if s11 < ((mX12_findsPrices μ a0 a1).1 406 (nI j11).toNatClampNeg) then ((mX12_findsPrices μ a0 a1).1 406 (nI j11).toNatClampNeg) else s11)), (0, .ref (ω.2.2 395)), (1, .int a0), (2, .int a1), (4, .int (nI j11))]) dX12_findsEvening_29 rfl (rj_bl rfl) rfl ?_
      refine rj_iinc (v := nI (j11 + 1)) (l' := [(4, .int (nI (j11 + 1))), (3, .int (if s11 < ((mX12_findsPrices μ a0 a1).1 406 (nI j11).toNatClampNeg) then ((mX12_findsPrices μ a0 a1).1 406 (nI j11).toNatClampNeg) else s11)), (0, .ref (ω.2.2 395)), (1, .int a0), (2, .int a1)]) 4 dX12_findsEvening_30 rfl rfl (nI_succ j11).symm (rj_bl rfl) rfl ?_
      refine rj_goto dX12_findsEvening_33 rfl ?_
      have e : bX12_findsEvening_11 μ a0 a1 j11 s11 = (if s11 < ((mX12_findsPrices μ a0 a1).1 406 (nI j11).toNatClampNeg) then ((mX12_findsPrices μ a0 a1).1 406 (nI j11).toNatClampNeg) else s11) := by unfold bX12_findsEvening_11; rfl
      exact rj_sub (l' := [(0, .ref (ω.2.2 395)), (1, .int a0), (2, .int a1), (3, .int (if s11 < ((mX12_findsPrices μ a0 a1).1 406 (nI j11).toNatClampNeg) then ((mX12_findsPrices μ a0 a1).1 406 (nI j11).toNatClampNeg) else s11)), (4, .int (nI (j11 + 1)))]) [2, 3, 4, 1, 0] rfl (ih (j11 + 1) (if s11 < ((mX12_findsPrices μ a0 a1).1 406 (nI j11).toNatClampNeg) then ((mX12_findsPrices μ a0 a1).1 406 (nI j11).toNatClampNeg) else s11) (by omega) (by rw [rj_fo_s, e] at K; exact K))
noncomputable def bX12_findsEvening_52 (μ : rj_M) (a0 : Int32) (a1 : Int32) (s44 : Int32 × rj_M) (s52 : Int32) : Int32 ⊕ Int32 := (if (s44.2.1 406 s52.toNatClampNeg) = s44.1 then (if (s44.2.1 395 8) ≤ 0 then .inr s52 else (if (fX12_isReached s44.2 s52 (s44.2.1 407 ((s44.2.1 395 8) - 1).toNatClampNeg)) = 0 then .inl (s52 + 1) else .inr s52)) else .inl (s52 + 1))
noncomputable def qX12_findsEvening_52 (μ : rj_M) (a0 : Int32) (a1 : Int32) (s44 : Int32 × rj_M) (s52 : Int32) : Prop := (vp_in s52 16 ∧ ((((s44.2.1 406 s52.toNatClampNeg) = s44.1) → ((((s44.2.1 395 8) ≤ 0) → True) ∧ ((¬ ((s44.2.1 395 8) ≤ 0)) → (vp_in ((s44.2.1 395 8) - 1) 16 ∧ vp_in s52 16 ∧ vp_in (s44.2.1 407 ((s44.2.1 395 8) - 1).toNatClampNeg) 16 ∧ qX12_isReached s44.2 s52 (s44.2.1 407 ((s44.2.1 395 8) - 1).toNatClampNeg) ∧ True)))) ∧ ((¬ ((s44.2.1 406 s52.toNatClampNeg) = s44.1)) → True)))
set_option maxHeartbeats 4000000 in
set_option maxRecDepth 100000 in
theorem lX12_findsEvening_52 {g : rj_G} {ω : rj_W} (hω : rj_ok ω) (μ : rj_M) (a0 : Int32) (a1 : Int32) (s44 : Int32 × rj_M)    (hp_a0 : (vp_in a0 12)) (h3 : ¬ (s44.1 ≤ 0)) {F : rj_F} : ∀ (r : Nat) (s : Int32), (True → ra_we (qX12_findsEvening_52 μ a0 a1 s44) (bX12_findsEvening_52 μ a0 a1 s44) r s) → (rj_R g RX12 cX12_findsEvening 6 (some .int) wsX12_findsEvening [] (rj_rm 4 0) F 0 ω s44.2 [(0, .ref (ω.2.2 395)), (1, .int a0), (2, .int a1), (3, .int (rj_fo (bX12_findsEvening_11 μ a0 a1) 16 0 0)), (4, .int s44.1), (5, .int (rj_we (bX12_findsEvening_52 μ a0 a1 s44) r s))] 97 []) → rj_R g RX12 cX12_findsEvening 6 (some .int) wsX12_findsEvening [] (rj_rm 4 0) F 0 ω s44.2 [(0, .ref (ω.2.2 395)), (1, .int a0), (2, .int a1), (3, .int (rj_fo (bX12_findsEvening_11 μ a0 a1) 16 0 0)), (4, .int s44.1), (5, .int s)] 52 [] := by
  intro r
  induction r with
  | zero =>
    intro s hq0 K
    exact (ra_we_0 (hq0 True.intro)).elim
  | succ r ih =>
    intro s52 hq0 K
    have hqa := ra_we_q (hq0 True.intro)
    unfold qX12_findsEvening_52 at hqa
    refine rj_aload_n 0 dX12_findsEvening_52 rfl rfl ?_
    refine rj_getR (C0 := RX12) (T := TX12) (N := 16) (j := 6) (r := 406) dX12_findsEvening_53 rfl vX12_findsEvening_12 rfl (rj_lt hω (k := 395) rfl) (rj_sh hω ly_395) (by decide) kX12_findsEvening_18 rfl ?_
    refine rj_iload 5 dX12_findsEvening_56 rfl rfl ?_
    refine rj_iald dX12_findsEvening_58 rfl (rj_lt hω (k := 406) rfl) (rj_sh hω ly_406) (And.left hqa) ?_
    refine rj_iload 4 dX12_findsEvening_59 rfl rfl ?_
    refine rj_icmp_ne dX12_findsEvening_61 rfl rfl (fun h4 => ?_) (fun h4 => ?_)
    · skip
      refine rj_iinc (v := s52 + 1) (l' := [(5, .int (s52 + 1)), (0, .ref (ω.2.2 395)), (1, .int a0), (2, .int a1), (3, .int (rj_fo (bX12_findsEvening_11 μ a0 a1) 16 0 0)), (4, .int s44.1)]) 5 dX12_findsEvening_91 rfl rfl rfl (rj_bl rfl) rfl ?_
      refine rj_goto dX12_findsEvening_94 rfl ?_
      have e : bX12_findsEvening_52 μ a0 a1 s44 s52 = .inl (s52 + 1) := by unfold bX12_findsEvening_52; rw [if_neg h4]; try rfl
      exact rj_sub (l' := [(0, .ref (ω.2.2 395)), (1, .int a0), (2, .int a1), (3, .int (rj_fo (bX12_findsEvening_11 μ a0 a1) 16 0 0)), (4, .int s44.1), (5, .int (s52 + 1))]) [1, 2, 3, 4, 5, 0] rfl (ih (s52 + 1) (fun _ => ra_we_n (hq0 True.intro) e) (by rw [rj_we_l e] at K; exact K))
    · have hq4 := (And.left (And.right hqa)) h4
      refine rj_aload_n 0 dX12_findsEvening_64 rfl rfl ?_
      refine rj_getI (C0 := RX12) (T := TX12) (N := 16) (j := 8) dX12_findsEvening_65 rfl vX12_findsEvening_12 rfl (rj_lt hω (k := 395) rfl) (rj_sh hω ly_395) (by decide) kX12_findsEvening_163 rfl ?_
      refine rj_if_le dX12_findsEvening_68 rfl rfl (fun h5 => ?_) (fun h5 => ?_)
      · skip
        have e : bX12_findsEvening_52 μ a0 a1 s44 s52 = .inr s52 := by unfold bX12_findsEvening_52; rw [if_pos h4]; rw [if_pos h5]; try rfl
        exact rj_sub (l' := [(0, .ref (ω.2.2 395)), (1, .int a0), (2, .int a1), (3, .int (rj_fo (bX12_findsEvening_11 μ a0 a1) 16 0 0)), (4, .int s44.1), (5, .int s52)]) [0, 1, 2, 3, 4, 5] rfl (by rw [rj_we_r e] at K; exact K)
      · have hq6 := (And.right hq4) h5
        refine rj_aload_n 0 dX12_findsEvening_71 rfl rfl ?_
        refine rj_iload 5 dX12_findsEvening_72 rfl rfl ?_
        refine rj_aload_n 0 dX12_findsEvening_74 rfl rfl ?_
        refine rj_getR (C0 := RX12) (T := TX12) (N := 16) (j := 7) (r := 407) dX12_findsEvening_75 rfl vX12_findsEvening_12 rfl (rj_lt hω (k := 395) rfl) (rj_sh hω ly_395) (by decide) kX12_findsEvening_21 rfl ?_
        refine rj_aload_n 0 dX12_findsEvening_78 rfl rfl ?_
        refine rj_getI (C0 := RX12) (T := TX12) (N := 16) (j := 8) dX12_findsEvening_79 rfl vX12_findsEvening_12 rfl (rj_lt hω (k := 395) rfl) (rj_sh hω ly_395) (by decide) kX12_findsEvening_163 rfl ?_
        refine rj_iconst (v := 1) dX12_findsEvening_82 rfl (by decide) ?_
        refine rj_isub dX12_findsEvening_83 rfl ?_
        refine rj_iald dX12_findsEvening_84 rfl (rj_lt hω (k := 407) rfl) (rj_sh hω ly_407) (And.left hq6) ?_
        refine rj_cV (rest := []) (sX12_isReached (g := g) (ω := ω) hω s44.2 s52 (s44.2.1 407 ((s44.2.1 395 8) - 1).toNatClampNeg)  (And.left (And.right hq6)) (And.left (And.right (And.right hq6))) (And.left (And.right (And.right (And.right hq6))))) gX12_findsEvening_X12_isReached (rj_lt hω (k := 395) rfl) (rj_sh hω ly_395) rfl rfl hVX12_isReached ⟨Nat.le_of_ble_eq_true rfl, Nat.le_of_ble_eq_true rfl⟩ dX12_findsEvening_85 rfl rfl rfl (Nat.le_of_ble_eq_true rfl) rfl (Nat.le_of_ble_eq_true rfl) rfl ?_
        refine rj_if_ne dX12_findsEvening_88 rfl rfl (fun h6 => ?_) (fun h6 => ?_)
        · skip
          have e : bX12_findsEvening_52 μ a0 a1 s44 s52 = .inr s52 := by unfold bX12_findsEvening_52; rw [if_pos h4]; rw [if_neg h5]; rw [if_neg h6]; try rfl
          exact rj_sub (l' := [(0, .ref (ω.2.2 395)), (1, .int a0), (2, .int a1), (3, .int (rj_fo (bX12_findsEvening_11 μ a0 a1) 16 0 0)), (4, .int s44.1), (5, .int s52)]) [0, 1, 2, 3, 4, 5] rfl (by rw [rj_we_r e] at K; exact K)
        · skip
          refine rj_iinc (v := s52 + 1) (l' := [(5, .int (s52 + 1)), (0, .ref (ω.2.2 395)), (1, .int a0), (2, .int a1), (3, .int (rj_fo (bX12_findsEvening_11 μ a0 a1) 16 0 0)), (4, .int s44.1)]) 5 dX12_findsEvening_91 rfl rfl rfl (rj_bl rfl) rfl ?_
          refine rj_goto dX12_findsEvening_94 rfl ?_
          have e : bX12_findsEvening_52 μ a0 a1 s44 s52 = .inl (s52 + 1) := by unfold bX12_findsEvening_52; rw [if_pos h4]; rw [if_neg h5]; rw [if_pos h6]; try rfl
          exact rj_sub (l' := [(0, .ref (ω.2.2 395)), (1, .int a0), (2, .int a1), (3, .int (rj_fo (bX12_findsEvening_11 μ a0 a1) 16 0 0)), (4, .int s44.1), (5, .int (s52 + 1))]) [1, 2, 3, 4, 5, 0] rfl (ih (s52 + 1) (fun _ => ra_we_n (hq0 True.intro) e) (by rw [rj_we_l e] at K; exact K))
noncomputable def bX12_findsEvening_44 (μ : rj_M) (a0 : Int32) (a1 : Int32) (s44 : Int32 × rj_M) : (Int32 × rj_M) ⊕ (Int32 × rj_M) := (if s44.1 ≤ 0 then .inr (s44.1, s44.2) else .inl ((s44.1 - (fX12_wishOf (rj_pi (rj_pi s44.2 407 (s44.2.1 395 8).toNatClampNeg (rj_we (bX12_findsEvening_52 μ a0 a1 s44) 17 0)) 395 8 (((rj_pi s44.2 407 (s44.2.1 395 8).toNatClampNeg (rj_we (bX12_findsEvening_52 μ a0 a1 s44) 17 0)).1 395 8) + 1)) a0 (rj_we (bX12_findsEvening_52 μ a0 a1 s44) 17 0))), (rj_pi (rj_pi s44.2 407 (s44.2.1 395 8).toNatClampNeg (rj_we (bX12_findsEvening_52 μ a0 a1 s44) 17 0)) 395 8 (((rj_pi s44.2 407 (s44.2.1 395 8).toNatClampNeg (rj_we (bX12_findsEvening_52 μ a0 a1 s44) 17 0)).1 395 8) + 1))))
noncomputable def qX12_findsEvening_44 (μ : rj_M) (a0 : Int32) (a1 : Int32) (s44 : Int32 × rj_M) : Prop := (((s44.1 ≤ 0) → True) ∧ ((¬ (s44.1 ≤ 0)) → ((True → ra_we (qX12_findsEvening_52 μ a0 a1 s44) (bX12_findsEvening_52 μ a0 a1 s44) 17 0) ∧ (vp_in (s44.2.1 395 8) 16 ∧ vp_in (rj_we (bX12_findsEvening_52 μ a0 a1 s44) 17 0) 16 ∧ True))))
set_option maxHeartbeats 4000000 in
set_option maxRecDepth 100000 in
theorem lX12_findsEvening_44 {g : rj_G} {ω : rj_W} (hω : rj_ok ω) (μ : rj_M) (a0 : Int32) (a1 : Int32)    (hp_a0 : (vp_in a0 12)) {F : rj_F} : ∀ (r : Nat) (s : Int32 × rj_M), (True → ra_we (qX12_findsEvening_44 μ a0 a1) (bX12_findsEvening_44 μ a0 a1) r s) → (rj_R g RX12 cX12_findsEvening 6 (some .int) wsX12_findsEvening [] (rj_rm 4 0) F 0 ω ((rj_we (bX12_findsEvening_44 μ a0 a1) r s).2) [(0, .ref (ω.2.2 395)), (1, .int a0), (2, .int a1), (3, .int (rj_fo (bX12_findsEvening_11 μ a0 a1) 16 0 0)), (4, .int ((rj_we (bX12_findsEvening_44 μ a0 a1) r s).1))] 133 []) → rj_R g RX12 cX12_findsEvening 6 (some .int) wsX12_findsEvening [] (rj_rm 4 0) F 0 ω s.2 [(0, .ref (ω.2.2 395)), (1, .int a0), (2, .int a1), (3, .int (rj_fo (bX12_findsEvening_11 μ a0 a1) 16 0 0)), (4, .int s.1)] 44 [] := by
  intro r
  induction r with
  | zero =>
    intro s hq0 K
    exact (ra_we_0 (hq0 True.intro)).elim
  | succ r ih =>
    intro s44 hq0 K
    have hqa := ra_we_q (hq0 True.intro)
    unfold qX12_findsEvening_44 at hqa
    refine rj_iload 4 dX12_findsEvening_44 rfl rfl ?_
    refine rj_if_le dX12_findsEvening_46 rfl rfl (fun h3 => ?_) (fun h3 => ?_)
    · skip
      have e : bX12_findsEvening_44 μ a0 a1 s44 = .inr (s44.1, s44.2) := by unfold bX12_findsEvening_44; rw [if_pos h3]; try rfl
      exact rj_sub (l' := [(0, .ref (ω.2.2 395)), (1, .int a0), (2, .int a1), (3, .int (rj_fo (bX12_findsEvening_11 μ a0 a1) 16 0 0)), (4, .int s44.1)]) [0, 1, 2, 3, 4] rfl (by rw [rj_we_r e] at K; exact K)
    · have hq2 := (And.right hqa) h3
      refine rj_iconst (v := 0) dX12_findsEvening_49 rfl (by decide) ?_
      refine rj_istore (l' := [(5, .int 0), (0, .ref (ω.2.2 395)), (1, .int a0), (2, .int a1), (3, .int (rj_fo (bX12_findsEvening_11 μ a0 a1) 16 0 0)), (4, .int s44.1)]) dX12_findsEvening_50 rfl (rj_bl rfl) rfl ?_
      refine rj_sub (l' := [(0, .ref (ω.2.2 395)), (1, .int a0), (2, .int a1), (3, .int (rj_fo (bX12_findsEvening_11 μ a0 a1) 16 0 0)), (4, .int s44.1), (5, .int 0)]) [1, 2, 3, 4, 5, 0] rfl ?_
      refine lX12_findsEvening_52 hω μ a0 a1 s44    hp_a0 h3 17 0 (And.left hq2) ?_
      refine rj_aload_n 0 dX12_findsEvening_97 rfl rfl ?_
      refine rj_getR (C0 := RX12) (T := TX12) (N := 16) (j := 7) (r := 407) dX12_findsEvening_98 rfl vX12_findsEvening_12 rfl (rj_lt hω (k := 395) rfl) (rj_sh hω ly_395) (by decide) kX12_findsEvening_21 rfl ?_
      refine rj_aload_n 0 dX12_findsEvening_101 rfl rfl ?_
      refine rj_getI (C0 := RX12) (T := TX12) (N := 16) (j := 8) dX12_findsEvening_102 rfl vX12_findsEvening_12 rfl (rj_lt hω (k := 395) rfl) (rj_sh hω ly_395) (by decide) kX12_findsEvening_163 rfl ?_
      refine rj_iload 5 dX12_findsEvening_105 rfl rfl ?_
      refine rj_iast dX12_findsEvening_107 rfl (rj_lt hω (k := 407) rfl) (rj_sh hω ly_407) (And.left (And.right hq2)) ?_
      refine rj_aload_n 0 dX12_findsEvening_108 rfl rfl ?_
      refine rj_dup dX12_findsEvening_109 rfl rfl ?_
      refine rj_getI (C0 := RX12) (T := TX12) (N := 16) (j := 8) dX12_findsEvening_110 rfl vX12_findsEvening_12 rfl (rj_lt hω (k := 395) rfl) (rj_sh hω ly_395) (by decide) kX12_findsEvening_163 rfl ?_
      refine rj_iconst (v := 1) dX12_findsEvening_113 rfl (by decide) ?_
      refine rj_iadd dX12_findsEvening_114 rfl ?_
      refine rj_putI (C0 := RX12) (T := TX12) (N := 16) (j := 8) dX12_findsEvening_115 rfl vX12_findsEvening_12 rfl (rj_lt hω (k := 395) rfl) (rj_sh hω ly_395) (by decide) kX12_findsEvening_163 tyX12 tyX12_ok nmX12 rfl rfl rfl rfl ?_
      refine rj_iload 4 dX12_findsEvening_118 rfl rfl ?_
      refine rj_aload_n 0 dX12_findsEvening_120 rfl rfl ?_
      refine rj_iload_n 1 dX12_findsEvening_121 rfl rfl ?_
      refine rj_iload 5 dX12_findsEvening_122 rfl rfl ?_
      refine rj_cV (rest := [.int s44.1]) (sX12_wishOf (g := g) (ω := ω) hω (rj_pi (rj_pi s44.2 407 (s44.2.1 395 8).toNatClampNeg (rj_we (bX12_findsEvening_52 μ a0 a1 s44) 17 0)) 395 8 (((rj_pi s44.2 407 (s44.2.1 395 8).toNatClampNeg (rj_we (bX12_findsEvening_52 μ a0 a1 s44) 17 0)).1 395 8) + 1)) a0 (rj_we (bX12_findsEvening_52 μ a0 a1 s44) 17 0)  hp_a0 (And.left (And.right (And.right hq2))) ) gX12_findsEvening_X12_wishOf (rj_lt hω (k := 395) rfl) (rj_sh hω ly_395) rfl rfl hVX12_wishOf ⟨Nat.le_of_ble_eq_true rfl, Nat.le_of_ble_eq_true rfl⟩ dX12_findsEvening_124 rfl rfl rfl (Nat.le_of_ble_eq_true rfl) rfl (Nat.le_of_ble_eq_true rfl) rfl ?_
      refine rj_isub dX12_findsEvening_127 rfl ?_
      refine rj_istore (l' := [(4, .int (s44.1 - (fX12_wishOf (rj_pi (rj_pi s44.2 407 (s44.2.1 395 8).toNatClampNeg (rj_we (bX12_findsEvening_52 μ a0 a1 s44) 17 0)) 395 8 (((rj_pi s44.2 407 (s44.2.1 395 8).toNatClampNeg (rj_we (bX12_findsEvening_52 μ a0 a1 s44) 17 0)).1 395 8) + 1)) a0 (rj_we (bX12_findsEvening_52 μ a0 a1 s44) 17 0)))), (0, .ref (ω.2.2 395)), (1, .int a0), (2, .int a1), (3, .int (rj_fo (bX12_findsEvening_11 μ a0 a1) 16 0 0)), (5, .int (rj_we (bX12_findsEvening_52 μ a0 a1 s44) 17 0))]) dX12_findsEvening_128 rfl (rj_bl rfl) rfl ?_
      refine rj_goto dX12_findsEvening_130 rfl ?_
      have e : bX12_findsEvening_44 μ a0 a1 s44 = .inl ((s44.1 - (fX12_wishOf (rj_pi (rj_pi s44.2 407 (s44.2.1 395 8).toNatClampNeg (rj_we (bX12_findsEvening_52 μ a0 a1 s44) 17 0)) 395 8 (((rj_pi s44.2 407 (s44.2.1 395 8).toNatClampNeg (rj_we (bX12_findsEvening_52 μ a0 a1 s44) 17 0)).1 395 8) + 1)) a0 (rj_we (bX12_findsEvening_52 μ a0 a1 s44) 17 0))), (rj_pi (rj_pi s44.2 407 (s44.2.1 395 8).toNatClampNeg (rj_we (bX12_findsEvening_52 μ a0 a1 s44) 17 0)) 395 8 (((rj_pi s44.2 407 (s44.2.1 395 8).toNatClampNeg (rj_we (bX12_findsEvening_52 μ a0 a1 s44) 17 0)).1 395 8) + 1))) := by unfold bX12_findsEvening_44; rw [if_neg h3]; try rfl
      exact rj_sub (l' := [(0, .ref (ω.2.2 395)), (1, .int a0), (2, .int a1), (3, .int (rj_fo (bX12_findsEvening_11 μ a0 a1) 16 0 0)), (4, .int (s44.1 - (fX12_wishOf (rj_pi (rj_pi s44.2 407 (s44.2.1 395 8).toNatClampNeg (rj_we (bX12_findsEvening_52 μ a0 a1 s44) 17 0)) 395 8 (((rj_pi s44.2 407 (s44.2.1 395 8).toNatClampNeg (rj_we (bX12_findsEvening_52 μ a0 a1 s44) 17 0)).1 395 8) + 1)) a0 (rj_we (bX12_findsEvening_52 μ a0 a1 s44) 17 0))))]) [1, 2, 3, 4, 0] rfl (ih ((s44.1 - (fX12_wishOf (rj_pi (rj_pi s44.2 407 (s44.2.1 395 8).toNatClampNeg (rj_we (bX12_findsEvening_52 μ a0 a1 s44) 17 0)) 395 8 (((rj_pi s44.2 407 (s44.2.1 395 8).toNatClampNeg (rj_we (bX12_findsEvening_52 μ a0 a1 s44) 17 0)).1 395 8) + 1)) a0 (rj_we (bX12_findsEvening_52 μ a0 a1 s44) 17 0))), (rj_pi (rj_pi s44.2 407 (s44.2.1 395 8).toNatClampNeg (rj_we (bX12_findsEvening_52 μ a0 a1 s44) 17 0)) 395 8 (((rj_pi s44.2 407 (s44.2.1 395 8).toNatClampNeg (rj_we (bX12_findsEvening_52 μ a0 a1 s44) 17 0)).1 395 8) + 1))) (fun _ => ra_we_n (hq0 True.intro) e) (by rw [rj_we_l e] at K; exact K))
set_option maxHeartbeats 4000000 in
theorem lX12_findsEvening_44u {g : rj_G} {ω : rj_W} (hω : rj_ok ω) (μ : rj_M) (a0 : Int32) (a1 : Int32)    (hp_a0 : (vp_in a0 12)) {F : rj_F} : ∀ (r : Nat) (c0 : Int32) (c1 : rj_M), (True → ra_we (qX12_findsEvening_44 μ a0 a1) (bX12_findsEvening_44 μ a0 a1) r (c0, c1)) → (rj_R g RX12 cX12_findsEvening 6 (some .int) wsX12_findsEvening [] (rj_rm 4 0) F 0 ω ((rj_we (bX12_findsEvening_44 μ a0 a1) r (c0, c1)).2) [(0, .ref (ω.2.2 395)), (1, .int a0), (2, .int a1), (3, .int (rj_fo (bX12_findsEvening_11 μ a0 a1) 16 0 0)), (4, .int ((rj_we (bX12_findsEvening_44 μ a0 a1) r (c0, c1)).1))] 133 []) → rj_R g RX12 cX12_findsEvening 6 (some .int) wsX12_findsEvening [] (rj_rm 4 0) F 0 ω c1 [(0, .ref (ω.2.2 395)), (1, .int a0), (2, .int a1), (3, .int (rj_fo (bX12_findsEvening_11 μ a0 a1) 16 0 0)), (4, .int c0)] 44 [] := fun r c0 c1 => lX12_findsEvening_44 hω μ a0 a1    hp_a0 r (c0, c1)
noncomputable def fX12_findsEvening (μ : rj_M) (a0 : Int32) (a1 : Int32) : Int32 := (rj_fo (bX12_findsEvening_11 μ a0 a1) 16 0 0)
noncomputable def mX12_findsEvening (μ : rj_M) (a0 : Int32) (a1 : Int32) : rj_M := (rj_we (bX12_findsEvening_44 μ a0 a1) 17 ((rj_fo (bX12_findsEvening_11 μ a0 a1) 16 0 0), (rj_pi (mX12_findsPrices μ a0 a1) 395 8 0))).2
noncomputable def qX12_findsEvening (μ : rj_M) (a0 : Int32) (a1 : Int32) : Prop := (qX12_findsPrices μ a0 a1 ∧ ((True → ra_we (qX12_findsEvening_44 μ a0 a1) (bX12_findsEvening_44 μ a0 a1) 17 ((rj_fo (bX12_findsEvening_11 μ a0 a1) 16 0 0), (rj_pi (mX12_findsPrices μ a0 a1) 395 8 0))) ∧ True))
set_option maxHeartbeats 40000000 in
set_option maxRecDepth 100000 in
theorem sX12_findsEvening {g : rj_G} {ω : rj_W} (hω : rj_ok ω) (μ : rj_M) (a0 : Int32) (a1 : Int32)  (hp_a0 : vp_in a0 12)  (hq : qX12_findsEvening μ a0 a1) : rj_Sp g yX12_findsEvening wsX12_findsEvening (rj_rm 4 0) [.ref (ω.2.2 395), .int a0, .int a1] ω μ (rj_D (.inl (some (.int (fX12_findsEvening μ a0 a1)))) ω (mX12_findsEvening μ a0 a1)) := by
  have hqa := hq
  unfold qX12_findsEvening at hqa
  refine rj_of' (cc := cX12_findsEvening) (nL := 6) (ret := (some .int)) (own := RX12) (l0 := [(0, .ref (ω.2.2 395)), (1, .int a0), (2, .int a1)]) rfl (by decide +kernel) rfl (Nat.le_of_ble_eq_true rfl) rfl ?_
  refine rj_aload_n 0 dX12_findsEvening_0 rfl rfl ?_
  refine rj_iload_n 1 dX12_findsEvening_1 rfl rfl ?_
  refine rj_iload_n 2 dX12_findsEvening_2 rfl rfl ?_
  refine rj_cV (rest := []) (sX12_findsPrices (g := g) (ω := ω) hω μ a0 a1  hp_a0 (And.left hqa)) gX12_findsEvening_X12_findsPrices (rj_lt hω (k := 395) rfl) (rj_sh hω ly_395) rfl rfl hVX12_findsPrices ⟨Nat.le_of_ble_eq_true rfl, Nat.le_of_ble_eq_true rfl⟩ dX12_findsEvening_3 rfl rfl rfl (Nat.le_of_ble_eq_true rfl) rfl (Nat.le_of_ble_eq_true rfl) rfl ?_
  refine rj_iconst (v := 0) dX12_findsEvening_6 rfl (by decide) ?_
  refine rj_istore_n (l' := [(3, .int 0), (0, .ref (ω.2.2 395)), (1, .int a0), (2, .int a1)]) dX12_findsEvening_7 rfl (rj_bl rfl) rfl ?_
  refine rj_iconst (v := 0) dX12_findsEvening_8 rfl (by decide) ?_
  refine rj_istore (l' := [(4, .int 0), (3, .int 0), (0, .ref (ω.2.2 395)), (1, .int a0), (2, .int a1)]) dX12_findsEvening_9 rfl (rj_bl rfl) rfl ?_
  refine rj_sub (l' := [(0, .ref (ω.2.2 395)), (1, .int a0), (2, .int a1), (3, .int 0), (4, .int (nI 0))]) [2, 3, 4, 1, 0] rfl ?_
  refine lX12_findsEvening_11 hω μ a0 a1     hp_a0 16 0 0 rfl ?_
  refine rj_aload_n 0 dX12_findsEvening_36 rfl rfl ?_
  refine rj_iconst (v := 0) dX12_findsEvening_37 rfl (by decide) ?_
  refine rj_putI (C0 := RX12) (T := TX12) (N := 16) (j := 8) dX12_findsEvening_38 rfl vX12_findsEvening_12 rfl (rj_lt hω (k := 395) rfl) (rj_sh hω ly_395) (by decide) kX12_findsEvening_163 tyX12 tyX12_ok nmX12 rfl rfl rfl rfl ?_
  refine rj_iload_n 3 dX12_findsEvening_41 rfl rfl ?_
  refine rj_istore (l' := [(4, .int (rj_fo (bX12_findsEvening_11 μ a0 a1) 16 0 0)), (0, .ref (ω.2.2 395)), (1, .int a0), (2, .int a1), (3, .int (rj_fo (bX12_findsEvening_11 μ a0 a1) 16 0 0))]) dX12_findsEvening_42 rfl (rj_bl rfl) rfl ?_
  refine rj_sub (l' := [(0, .ref (ω.2.2 395)), (1, .int a0), (2, .int a1), (3, .int (rj_fo (bX12_findsEvening_11 μ a0 a1) 16 0 0)), (4, .int (rj_fo (bX12_findsEvening_11 μ a0 a1) 16 0 0))]) [1, 2, 3, 4, 0] rfl ?_
  refine lX12_findsEvening_44u hω μ a0 a1    hp_a0 17 (rj_fo (bX12_findsEvening_11 μ a0 a1) 16 0 0) (rj_pi (mX12_findsPrices μ a0 a1) 395 8 0) (And.left (And.right hqa)) ?_
  refine rj_iload_n 3 dX12_findsEvening_133 rfl rfl ?_
  exact rj_iret dX12_findsEvening_134 rfl (Nat.le_of_ble_eq_true rfl) (Nat.le_of_ble_eq_true rfl) ⟨(by unfold fX12_findsEvening; rfl), rfl, (by unfold mX12_findsEvening; rfl)⟩
