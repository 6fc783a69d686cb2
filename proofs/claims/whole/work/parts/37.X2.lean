theorem hSX2_isReached : yX2_isReached.cls ≠ "java/lang/invoke/MethodHandle" ∧ yX2_isReached.cls ≠ "java/lang/invoke/VarHandle" ∧ (parseMethodDescriptor yX2_isReached.desc).map (fun d => d.parameters.length) = some 2 := by decide +kernel
theorem hVX2_isReached : yX2_isReached.cls = RX2 ∧ yX2_isReached.cls ≠ "java/lang/invoke/MethodHandle" ∧ yX2_isReached.cls ≠ "java/lang/invoke/VarHandle" ∧ (parseMethodDescriptor yX2_isReached.desc).map (fun d => d.parameters.length) = some 2 := by decide +kernel
theorem vX2_isReached_2 : ∀ w ∈ u_ws RX2 TX2 4, w ∈ wsX2_isReached := by decide +kernel
theorem kX2_isReached_23 : Cond.fieldLink RX2 23 (TX2 1).1 (TX2 1).2.1 (TX2 1).2.2.1 ∈ wsX2_isReached := by decide +kernel
theorem kX2_isReached_19 : Cond.fieldLink RX2 19 (TX2 0).1 (TX2 0).2.1 (TX2 0).2.2.1 ∈ wsX2_isReached := by decide +kernel
def fX2_isReached (μ : rj_M) (a0 : Int32) (a1 : Int32) : Int32 := (if (fX7_dayOf μ a0) = (fX7_dayOf μ a1) then (if (fX7_beginOf μ a0) < ((fX7_endOf μ a1) + (fX4_minutesBetween μ (fX7_stageOf μ a1) (fX7_stageOf μ a0))) then 0 else 1) else 0)
set_option maxHeartbeats 4000000 in
set_option maxRecDepth 100000 in
theorem sX2_isReached {g : rj_G} {ω : rj_W} (hω : rj_ok ω) (μ : rj_M) (a0 : Int32) (a1 : Int32)   : rj_Sp g yX2_isReached wsX2_isReached (rj_rm 2 0) [.ref (ω.2.2 45), .int a0, .int a1] ω μ (rj_D (.inl (some (.int (fX2_isReached μ a0 a1)))) ω μ) := by
  refine rj_of' (cc := cX2_isReached) (nL := 3) (ret := (some .boolean)) (own := RX2) (l0 := [(0, .ref (ω.2.2 45)), (1, .int a0), (2, .int a1)]) rfl (by decide +kernel) rfl (Nat.le_of_ble_eq_true rfl) rfl ?_
  refine rj_aload_n 0 dX2_isReached_0 rfl rfl ?_
  refine rj_getR (C0 := RX2) (T := TX2) (N := 4) (j := 1) (r := 8) dX2_isReached_1 rfl vX2_isReached_2 rfl (rj_lt hω (k := 45) rfl) (rj_sh hω ly_45) (by decide) kX2_isReached_23 rfl ?_
  refine rj_iload_n 1 dX2_isReached_4 rfl rfl ?_
  refine rj_cV (rest := []) (sX7_dayOf (g := g) (ω := ω) hω μ a0  ) gX2_isReached_X7_dayOf (rj_lt hω (k := 8) rfl) (rj_sh hω ly_8) rfl rfl hVX7_dayOf ⟨Nat.le_of_ble_eq_true rfl, Nat.le_of_ble_eq_true rfl⟩ dX2_isReached_5 rfl rfl rfl (Nat.le_of_ble_eq_true rfl) rfl (Nat.le_of_ble_eq_true rfl) rfl ?_
  refine rj_aload_n 0 dX2_isReached_8 rfl rfl ?_
  refine rj_getR (C0 := RX2) (T := TX2) (N := 4) (j := 1) (r := 8) dX2_isReached_9 rfl vX2_isReached_2 rfl (rj_lt hω (k := 45) rfl) (rj_sh hω ly_45) (by decide) kX2_isReached_23 rfl ?_
  refine rj_iload_n 2 dX2_isReached_12 rfl rfl ?_
  refine rj_cV (rest := [.int (fX7_dayOf μ a0)]) (sX7_dayOf (g := g) (ω := ω) hω μ a1  ) gX2_isReached_X7_dayOf (rj_lt hω (k := 8) rfl) (rj_sh hω ly_8) rfl rfl hVX7_dayOf ⟨Nat.le_of_ble_eq_true rfl, Nat.le_of_ble_eq_true rfl⟩ dX2_isReached_13 rfl rfl rfl (Nat.le_of_ble_eq_true rfl) rfl (Nat.le_of_ble_eq_true rfl) rfl ?_
  refine rj_icmp_ne dX2_isReached_16 rfl rfl (fun h1 => ?_) (fun h1 => ?_)
  · refine rj_iconst (v := 0) dX2_isReached_66 rfl (by decide) ?_
    exact rj_zret dX2_isReached_67 rfl rfl (Nat.le_of_ble_eq_true rfl) (Nat.le_of_ble_eq_true rfl) ⟨(by unfold fX2_isReached; rw [if_neg h1]; try rfl), rfl, rfl⟩
  · refine rj_aload_n 0 dX2_isReached_19 rfl rfl ?_
    refine rj_getR (C0 := RX2) (T := TX2) (N := 4) (j := 1) (r := 8) dX2_isReached_20 rfl vX2_isReached_2 rfl (rj_lt hω (k := 45) rfl) (rj_sh hω ly_45) (by decide) kX2_isReached_23 rfl ?_
    refine rj_iload_n 1 dX2_isReached_23 rfl rfl ?_
    refine rj_cV (rest := []) (sX7_beginOf (g := g) (ω := ω) hω μ a0  ) gX2_isReached_X7_beginOf (rj_lt hω (k := 8) rfl) (rj_sh hω ly_8) rfl rfl hVX7_beginOf ⟨Nat.le_of_ble_eq_true rfl, Nat.le_of_ble_eq_true rfl⟩ dX2_isReached_24 rfl rfl rfl (Nat.le_of_ble_eq_true rfl) rfl (Nat.le_of_ble_eq_true rfl) rfl ?_
    refine rj_aload_n 0 dX2_isReached_27 rfl rfl ?_
    refine rj_getR (C0 := RX2) (T := TX2) (N := 4) (j := 1) (r := 8) dX2_isReached_28 rfl vX2_isReached_2 rfl (rj_lt hω (k := 45) rfl) (rj_sh hω ly_45) (by decide) kX2_isReached_23 rfl ?_
    refine rj_iload_n 2 dX2_isReached_31 rfl rfl ?_
    refine rj_cV (rest := [.int (fX7_beginOf μ a0)]) (sX7_endOf (g := g) (ω := ω) hω μ a1  ) gX2_isReached_X7_endOf (rj_lt hω (k := 8) rfl) (rj_sh hω ly_8) rfl rfl hVX7_endOf ⟨Nat.le_of_ble_eq_true rfl, Nat.le_of_ble_eq_true rfl⟩ dX2_isReached_32 rfl rfl rfl (Nat.le_of_ble_eq_true rfl) rfl (Nat.le_of_ble_eq_true rfl) rfl ?_
    refine rj_aload_n 0 dX2_isReached_35 rfl rfl ?_
    refine rj_getR (C0 := RX2) (T := TX2) (N := 4) (j := 0) (r := 3) dX2_isReached_36 rfl vX2_isReached_2 rfl (rj_lt hω (k := 45) rfl) (rj_sh hω ly_45) (by decide) kX2_isReached_19 rfl ?_
    refine rj_aload_n 0 dX2_isReached_39 rfl rfl ?_
    refine rj_getR (C0 := RX2) (T := TX2) (N := 4) (j := 1) (r := 8) dX2_isReached_40 rfl vX2_isReached_2 rfl (rj_lt hω (k := 45) rfl) (rj_sh hω ly_45) (by decide) kX2_isReached_23 rfl ?_
    refine rj_iload_n 2 dX2_isReached_43 rfl rfl ?_
    refine rj_cV (rest := [.ref (ω.2.2 3), .int (fX7_endOf μ a1), .int (fX7_beginOf μ a0)]) (sX7_stageOf (g := g) (ω := ω) hω μ a1  ) gX2_isReached_X7_stageOf (rj_lt hω (k := 8) rfl) (rj_sh hω ly_8) rfl rfl hVX7_stageOf ⟨Nat.le_of_ble_eq_true rfl, Nat.le_of_ble_eq_true rfl⟩ dX2_isReached_44 rfl rfl rfl (Nat.le_of_ble_eq_true rfl) rfl (Nat.le_of_ble_eq_true rfl) rfl ?_
    refine rj_aload_n 0 dX2_isReached_47 rfl rfl ?_
    refine rj_getR (C0 := RX2) (T := TX2) (N := 4) (j := 1) (r := 8) dX2_isReached_48 rfl vX2_isReached_2 rfl (rj_lt hω (k := 45) rfl) (rj_sh hω ly_45) (by decide) kX2_isReached_23 rfl ?_
    refine rj_iload_n 1 dX2_isReached_51 rfl rfl ?_
    refine rj_cV (rest := [.int (fX7_stageOf μ a1), .ref (ω.2.2 3), .int (fX7_endOf μ a1), .int (fX7_beginOf μ a0)]) (sX7_stageOf (g := g) (ω := ω) hω μ a0  ) gX2_isReached_X7_stageOf (rj_lt hω (k := 8) rfl) (rj_sh hω ly_8) rfl rfl hVX7_stageOf ⟨Nat.le_of_ble_eq_true rfl, Nat.le_of_ble_eq_true rfl⟩ dX2_isReached_52 rfl rfl rfl (Nat.le_of_ble_eq_true rfl) rfl (Nat.le_of_ble_eq_true rfl) rfl ?_
    refine rj_cV (rest := [.int (fX7_endOf μ a1), .int (fX7_beginOf μ a0)]) (sX4_minutesBetween (g := g) (ω := ω) hω μ (fX7_stageOf μ a1) (fX7_stageOf μ a0)  ) gX2_isReached_X4_minutesBetween (rj_lt hω (k := 3) rfl) (rj_sh hω ly_3) rfl rfl hVX4_minutesBetween ⟨Nat.le_of_ble_eq_true rfl, Nat.le_of_ble_eq_true rfl⟩ dX2_isReached_55 rfl rfl rfl (Nat.le_of_ble_eq_true rfl) rfl (Nat.le_of_ble_eq_true rfl) rfl ?_
    refine rj_iadd dX2_isReached_58 rfl ?_
    refine rj_icmp_lt dX2_isReached_59 rfl rfl (fun h2 => ?_) (fun h2 => ?_)
    · refine rj_iconst (v := 0) dX2_isReached_66 rfl (by decide) ?_
      exact rj_zret dX2_isReached_67 rfl rfl (Nat.le_of_ble_eq_true rfl) (Nat.le_of_ble_eq_true rfl) ⟨(by unfold fX2_isReached; rw [if_pos h1]; rw [if_pos h2]; try rfl), rfl, rfl⟩
    · refine rj_iconst (v := 1) dX2_isReached_62 rfl (by decide) ?_
      refine rj_goto dX2_isReached_63 rfl ?_
      exact rj_zret dX2_isReached_67 rfl rfl (Nat.le_of_ble_eq_true rfl) (Nat.le_of_ble_eq_true rfl) ⟨(by unfold fX2_isReached; rw [if_pos h1]; rw [if_neg h2]; try rfl), rfl, rfl⟩
theorem nX2_isReached (μ : rj_M) (a0 : Int32) (a1 : Int32) : narrow .boolean (.int (fX2_isReached μ a0 a1)) = .int (fX2_isReached μ a0 a1) := by
  unfold fX2_isReached
  (repeat' (first | split | rfl))
theorem hSX2_dearestBehind : yX2_dearestBehind.cls ≠ "java/lang/invoke/MethodHandle" ∧ yX2_dearestBehind.cls ≠ "java/lang/invoke/VarHandle" ∧ (parseMethodDescriptor yX2_dearestBehind.desc).map (fun d => d.parameters.length) = some 1 := by decide +kernel
theorem hVX2_dearestBehind : yX2_dearestBehind.cls = RX2 ∧ yX2_dearestBehind.cls ≠ "java/lang/invoke/MethodHandle" ∧ yX2_dearestBehind.cls ≠ "java/lang/invoke/VarHandle" ∧ (parseMethodDescriptor yX2_dearestBehind.desc).map (fun d => d.parameters.length) = some 1 := by decide +kernel
theorem vX2_dearestBehind_2 : ∀ w ∈ u_ws RX2 TX2 4, w ∈ wsX2_dearestBehind := by decide +kernel
theorem kX2_dearestBehind_9 : Cond.fieldLink RX2 9 (TX2 2).1 (TX2 2).2.1 (TX2 2).2.2.1 ∈ wsX2_dearestBehind := by decide +kernel
def bX2_dearestBehind_4 (μ : rj_M) (a0 : Int32) (j4 : Nat) (s4 : Int32) : Int32 := (if (μ.1 46 (nI j4).toNatClampNeg) ≤ s4 then s4 else (if (fX2_isReached μ (nI j4) a0) = 0 then s4 else (μ.1 46 (nI j4).toNatClampNeg)))
set_option maxHeartbeats 4000000 in
set_option maxRecDepth 100000 in
theorem lX2_dearestBehind_4 {g : rj_G} {ω : rj_W} (hω : rj_ok ω) (μ : rj_M) (a0 : Int32)     {F : rj_F} : ∀ (r j : Nat) (s : Int32), j + r = 16 → (rj_R g RX2 cX2_dearestBehind 4 (some .int) wsX2_dearestBehind [] (rj_rm 3 0) F 0 ω μ [(0, .ref (ω.2.2 45)), (1, .int a0), (2, .int (rj_fo (bX2_dearestBehind_4 μ a0) r j s)), (3, .int (nI 16))] 42 []) → rj_R g RX2 cX2_dearestBehind 4 (some .int) wsX2_dearestBehind [] (rj_rm 3 0) F 0 ω μ [(0, .ref (ω.2.2 45)), (1, .int a0), (2, .int s), (3, .int (nI j))] 4 [] := by
  intro r
  induction r with
  | zero =>
    intro j s hj K
    have e0 : j = 16 := by omega
    have hge : 16 ≤ nI j := by
      rw [e0]
      exact Int32.le_refl _
    refine rj_iload_n 3 dX2_dearestBehind_4 rfl rfl ?_
    refine rj_bipush (v := 16) dX2_dearestBehind_5 rfl (by decide) ?_
    refine rj_icmp_ge dX2_dearestBehind_7 rfl rfl (fun h4 => ?_) (fun h4 => ?_)
    · have e1 : nI j = nI 16 := by rw [e0]
      rw [e1]
      exact K
    · exact absurd hge h4
  | succ r ih =>
    intro j4 s4 hj K
    have hl4 : j4 < 16 := by omega
    have hg4 : ¬ 16 ≤ nI j4 := nI_ge hl4 (rj_bl rfl)
    refine rj_iload_n 3 dX2_dearestBehind_4 rfl rfl ?_
    refine rj_bipush (v := 16) dX2_dearestBehind_5 rfl (by decide) ?_
    refine rj_icmp_ge dX2_dearestBehind_7 rfl rfl (fun h1 => ?_) (fun h1 => ?_)
    · exact absurd h1 hg4
    · refine rj_aload_n 0 dX2_dearestBehind_10 rfl rfl ?_
      refine rj_getR (C0 := RX2) (T := TX2) (N := 4) (j := 2) (r := 46) dX2_dearestBehind_11 rfl vX2_dearestBehind_2 rfl (rj_lt hω (k := 45) rfl) (rj_sh hω ly_45) (by decide) kX2_dearestBehind_9 rfl ?_
      refine rj_iload_n 3 dX2_dearestBehind_14 rfl rfl ?_
      refine rj_iald dX2_dearestBehind_15 rfl (rj_lt hω (k := 46) rfl) (rj_sh hω ly_46) (vp_in_nI hl4 (rj_bl rfl)) ?_
      refine rj_iload_n 2 dX2_dearestBehind_16 rfl rfl ?_
      refine rj_icmp_le dX2_dearestBehind_17 rfl rfl (fun h2 => ?_) (fun h2 => ?_)
      · refine rj_iinc (v := nI (j4 + 1)) (l' := [(3, .int (nI (j4 + 1))), (0, .ref (ω.2.2 45)), (1, .int a0), (2, .int s4)]) 3 dX2_dearestBehind_36 rfl rfl (nI_succ j4).symm (rj_bl rfl) rfl ?_
        refine rj_goto dX2_dearestBehind_39 rfl ?_
        have e : bX2_dearestBehind_4 μ a0 j4 s4 = s4 := by unfold bX2_dearestBehind_4; rw [if_pos h2]; try rfl
        exact rj_sub (l' := [(0, .ref (ω.2.2 45)), (1, .int a0), (2, .int s4), (3, .int (nI (j4 + 1)))]) [1, 2, 3, 0] rfl (ih (j4 + 1) s4 (by omega) (by rw [rj_fo_s, e] at K; exact K))
      · refine rj_aload_n 0 dX2_dearestBehind_20 rfl rfl ?_
        refine rj_iload_n 3 dX2_dearestBehind_21 rfl rfl ?_
        refine rj_iload_n 1 dX2_dearestBehind_22 rfl rfl ?_
        refine rj_cV (rest := []) (sX2_isReached (g := g) (ω := ω) hω μ (nI j4) a0  ) gX2_dearestBehind_X2_isReached (rj_lt hω (k := 45) rfl) (rj_sh hω ly_45) rfl rfl hVX2_isReached ⟨Nat.le_of_ble_eq_true rfl, Nat.le_of_ble_eq_true rfl⟩ dX2_dearestBehind_23 rfl rfl rfl (Nat.le_of_ble_eq_true rfl) rfl (Nat.le_of_ble_eq_true rfl) rfl ?_
        refine rj_if_eq dX2_dearestBehind_26 rfl rfl (fun h3 => ?_) (fun h3 => ?_)
        · refine rj_iinc (v := nI (j4 + 1)) (l' := [(3, .int (nI (j4 + 1))), (0, .ref (ω.2.2 45)), (1, .int a0), (2, .int s4)]) 3 dX2_dearestBehind_36 rfl rfl (nI_succ j4).symm (rj_bl rfl) rfl ?_
          refine rj_goto dX2_dearestBehind_39 rfl ?_
          have e : bX2_dearestBehind_4 μ a0 j4 s4 = s4 := by unfold bX2_dearestBehind_4; rw [if_neg h2]; rw [if_pos h3]; try rfl
          exact rj_sub (l' := [(0, .ref (ω.2.2 45)), (1, .int a0), (2, .int s4), (3, .int (nI (j4 + 1)))]) [1, 2, 3, 0] rfl (ih (j4 + 1) s4 (by omega) (by rw [rj_fo_s, e] at K; exact K))
        · refine rj_aload_n 0 dX2_dearestBehind_29 rfl rfl ?_
          refine rj_getR (C0 := RX2) (T := TX2) (N := 4) (j := 2) (r := 46) dX2_dearestBehind_30 rfl vX2_dearestBehind_2 rfl (rj_lt hω (k := 45) rfl) (rj_sh hω ly_45) (by decide) kX2_dearestBehind_9 rfl ?_
          refine rj_iload_n 3 dX2_dearestBehind_33 rfl rfl ?_
          refine rj_iald dX2_dearestBehind_34 rfl (rj_lt hω (k := 46) rfl) (rj_sh hω ly_46) (vp_in_nI hl4 (rj_bl rfl)) ?_
          refine rj_istore_n (l' := [(2, .int (μ.1 46 (nI j4).toNatClampNeg)), (0, .ref (ω.2.2 45)), (1, .int a0), (3, .int (nI j4))]) dX2_dearestBehind_35 rfl (rj_bl rfl) rfl ?_
          refine rj_iinc (v := nI (j4 + 1)) (l' := [(3, .int (nI (j4 + 1))), (2, .int (μ.1 46 (nI j4).toNatClampNeg)), (0, .ref (ω.2.2 45)), (1, .int a0)]) 3 dX2_dearestBehind_36 rfl rfl (nI_succ j4).symm (rj_bl rfl) rfl ?_
          refine rj_goto dX2_dearestBehind_39 rfl ?_
          have e : bX2_dearestBehind_4 μ a0 j4 s4 = (μ.1 46 (nI j4).toNatClampNeg) := by unfold bX2_dearestBehind_4; rw [if_neg h2]; rw [if_neg h3]; try rfl
          exact rj_sub (l' := [(0, .ref (ω.2.2 45)), (1, .int a0), (2, .int (μ.1 46 (nI j4).toNatClampNeg)), (3, .int (nI (j4 + 1)))]) [2, 3, 1, 0] rfl (ih (j4 + 1) (μ.1 46 (nI j4).toNatClampNeg) (by omega) (by rw [rj_fo_s, e] at K; exact K))
def fX2_dearestBehind (μ : rj_M) (a0 : Int32) : Int32 := (rj_fo (bX2_dearestBehind_4 μ a0) 16 0 0)
set_option maxHeartbeats 4000000 in
set_option maxRecDepth 100000 in
theorem sX2_dearestBehind {g : rj_G} {ω : rj_W} (hω : rj_ok ω) (μ : rj_M) (a0 : Int32)   : rj_Sp g yX2_dearestBehind wsX2_dearestBehind (rj_rm 3 0) [.ref (ω.2.2 45), .int a0] ω μ (rj_D (.inl (some (.int (fX2_dearestBehind μ a0)))) ω μ) := by
  refine rj_of' (cc := cX2_dearestBehind) (nL := 4) (ret := (some .int)) (own := RX2) (l0 := [(0, .ref (ω.2.2 45)), (1, .int a0)]) rfl (by decide +kernel) rfl (Nat.le_of_ble_eq_true rfl) rfl ?_
  refine rj_iconst (v := 0) dX2_dearestBehind_0 rfl (by decide) ?_
  refine rj_istore_n (l' := [(2, .int 0), (0, .ref (ω.2.2 45)), (1, .int a0)]) dX2_dearestBehind_1 rfl (rj_bl rfl) rfl ?_
  refine rj_iconst (v := 0) dX2_dearestBehind_2 rfl (by decide) ?_
  refine rj_istore_n (l' := [(3, .int 0), (2, .int 0), (0, .ref (ω.2.2 45)), (1, .int a0)]) dX2_dearestBehind_3 rfl (rj_bl rfl) rfl ?_
  refine rj_sub (l' := [(0, .ref (ω.2.2 45)), (1, .int a0), (2, .int 0), (3, .int (nI 0))]) [2, 3, 1, 0] rfl ?_
  refine lX2_dearestBehind_4 hω μ a0     16 0 0 rfl ?_
  refine rj_iload_n 2 dX2_dearestBehind_42 rfl rfl ?_
  exact rj_iret dX2_dearestBehind_43 rfl (Nat.le_of_ble_eq_true rfl) (Nat.le_of_ble_eq_true rfl) ⟨(by unfold fX2_dearestBehind; rfl), rfl, rfl⟩
theorem hSX2_planFor : yX2_planFor.cls ≠ "java/lang/invoke/MethodHandle" ∧ yX2_planFor.cls ≠ "java/lang/invoke/VarHandle" ∧ (parseMethodDescriptor yX2_planFor.desc).map (fun d => d.parameters.length) = some 1 := by decide +kernel
theorem hVX2_planFor : yX2_planFor.cls = RX2 ∧ yX2_planFor.cls ≠ "java/lang/invoke/MethodHandle" ∧ yX2_planFor.cls ≠ "java/lang/invoke/VarHandle" ∧ (parseMethodDescriptor yX2_planFor.desc).map (fun d => d.parameters.length) = some 1 := by decide +kernel
theorem vX2_planFor_2 : ∀ w ∈ u_ws RX2 TX2 4, w ∈ wsX2_planFor := by decide +kernel
theorem kX2_planFor_15 : Cond.fieldLink RX2 15 (TX2 3).1 (TX2 3).2.1 (TX2 3).2.2.1 ∈ wsX2_planFor := by decide +kernel
theorem kX2_planFor_9 : Cond.fieldLink RX2 9 (TX2 2).1 (TX2 2).2.1 (TX2 2).2.2.1 ∈ wsX2_planFor := by decide +kernel
theorem jX2_planFor_27_i : Cond.initialized yX11_fillRow.cls ∈ wsX2_planFor := by decide +kernel
theorem jX2_planFor_27_s : Cond.static yX11_fillRow ∈ wsX2_planFor := by decide +kernel
theorem jX2_planFor_27_n : (RX2, 27, yX11_fillRow, "Festivalgrounds") ∈ rj_nw := by decide +kernel
theorem kX2_planFor_23 : Cond.fieldLink RX2 23 (TX2 1).1 (TX2 1).2.1 (TX2 1).2.2.1 ∈ wsX2_planFor := by decide +kernel
theorem jX2_planFor_44_i : Cond.initialized yX11_replace.cls ∈ wsX2_planFor := by decide +kernel
theorem jX2_planFor_44_s : Cond.static yX11_replace ∈ wsX2_planFor := by decide +kernel
theorem jX2_planFor_44_n : (RX2, 44, yX11_replace, "Festivalgrounds") ∈ rj_nw := by decide +kernel
def bX2_planFor_17 (μ : rj_M) (a0 : Int32) (j17 : Nat) (s17 : Int32 × rj_M) : (Int32 × rj_M) ⊕ rj_M := (if (fX7_latestOutside s17.2 s17.1) = (-1) then .inr s17.2 else (if (fX7_wishOf s17.2 (s17.2.1 45 3) (fX7_latestOutside s17.2 s17.1)) = 0 then .inl ((s17.1 ||| (1 <<< ((fX7_latestOutside s17.2 s17.1) &&& 31))), (mX11_replace s17.2 46 16 (fX7_latestOutside s17.2 s17.1) 0)) else .inl ((s17.1 ||| (1 <<< ((fX7_latestOutside s17.2 s17.1) &&& 31))), (mX11_replace s17.2 46 16 (fX7_latestOutside s17.2 s17.1) ((fX7_wishOf s17.2 (s17.2.1 45 3) (fX7_latestOutside s17.2 s17.1)) + (fX2_dearestBehind s17.2 (fX7_latestOutside s17.2 s17.1)))))))
set_option maxHeartbeats 4000000 in
set_option maxRecDepth 100000 in
theorem lX2_planFor_17 {g : rj_G} {ω : rj_W} (hω : rj_ok ω) (μ : rj_M) (a0 : Int32)     {P : rj_P} : ∀ (r j : Nat) (s : Int32 × rj_M), j + r = 16 → (∀ z : Int32 × rj_M, rj_ix (bX2_planFor_17 μ a0) r j s = .inl z → rj_R g RX2 cX2_planFor 6 none wsX2_planFor [] (rj_rm 4 0) (rj_E g (rj_rm 4 0) P) 0 ω z.2 [(0, .ref (ω.2.2 45)), (1, .int a0), (2, .int z.1), (3, .int (nI 16))] 96 []) → (∀ z : rj_M, rj_ix (bX2_planFor_17 μ a0) r j s = .inr z → P (.inl none) ω z) → rj_R g RX2 cX2_planFor 6 none wsX2_planFor [] (rj_rm 4 0) (rj_E g (rj_rm 4 0) P) 0 ω s.2 [(0, .ref (ω.2.2 45)), (1, .int a0), (2, .int s.1), (3, .int (nI j))] 17 [] := by
  intro r
  induction r with
  | zero =>
    intro j s hj K K2
    have e0 : j = 16 := by omega
    have hge : 16 ≤ nI j := by
      rw [e0]
      exact Int32.le_refl _
    refine rj_iload_n 3 dX2_planFor_17 rfl rfl ?_
    refine rj_bipush (v := 16) dX2_planFor_18 rfl (by decide) ?_
    refine rj_icmp_ge dX2_planFor_20 rfl rfl (fun h4 => ?_) (fun h4 => ?_)
    · have e1 : nI j = nI 16 := by rw [e0]
      rw [e1]
      exact K s rfl
    · exact absurd hge h4
  | succ r ih =>
    intro j17 s17 hj K K2
    have hl17 : j17 < 16 := by omega
    have hg17 : ¬ 16 ≤ nI j17 := nI_ge hl17 (rj_bl rfl)
    refine rj_iload_n 3 dX2_planFor_17 rfl rfl ?_
    refine rj_bipush (v := 16) dX2_planFor_18 rfl (by decide) ?_
    refine rj_icmp_ge dX2_planFor_20 rfl rfl (fun h1 => ?_) (fun h1 => ?_)
    · exact absurd h1 hg17
    · refine rj_aload_n 0 dX2_planFor_23 rfl rfl ?_
      refine rj_getR (C0 := RX2) (T := TX2) (N := 4) (j := 1) (r := 8) dX2_planFor_24 rfl vX2_planFor_2 rfl (rj_lt hω (k := 45) rfl) (rj_sh hω ly_45) (by decide) kX2_planFor_23 rfl ?_
      refine rj_iload_n 2 dX2_planFor_27 rfl rfl ?_
      refine rj_cV (rest := []) (sX7_latestOutside (g := g) (ω := ω) hω s17.2 s17.1  ) gX2_planFor_X7_latestOutside (rj_lt hω (k := 8) rfl) (rj_sh hω ly_8) rfl rfl hVX7_latestOutside ⟨Nat.le_of_ble_eq_true rfl, Nat.le_of_ble_eq_true rfl⟩ dX2_planFor_28 rfl rfl rfl (Nat.le_of_ble_eq_true rfl) rfl (Nat.le_of_ble_eq_true rfl) rfl ?_
      refine rj_istore (l' := [(4, .int (fX7_latestOutside s17.2 s17.1)), (0, .ref (ω.2.2 45)), (1, .int a0), (2, .int s17.1), (3, .int (nI j17))]) dX2_planFor_31 rfl (rj_bl rfl) rfl ?_
      refine rj_iload 0 dX2_planFor_33 rfl rfl ?_
      refine rj_iconst (v := (-1)) dX2_planFor_35 rfl (by decide) ?_
      refine rj_icmp_ne dX2_planFor_36 rfl rfl (fun h2 => ?_) (fun h2 => ?_)
      · refine rj_aload_n 1 dX2_planFor_40 rfl rfl ?_
        refine rj_getR (C0 := RX2) (T := TX2) (N := 4) (j := 1) (r := 8) dX2_planFor_41 rfl vX2_planFor_2 rfl (rj_lt hω (k := 45) rfl) (rj_sh hω ly_45) (by decide) kX2_planFor_23 rfl ?_
        refine rj_aload_n 1 dX2_planFor_44 rfl rfl ?_
        refine rj_getI (C0 := RX2) (T := TX2) (N := 4) (j := 3) dX2_planFor_45 rfl vX2_planFor_2 rfl (rj_lt hω (k := 45) rfl) (rj_sh hω ly_45) (by decide) kX2_planFor_15 rfl ?_
        refine rj_iload 0 dX2_planFor_48 rfl rfl ?_
        refine rj_cV (rest := []) (sX7_wishOf (g := g) (ω := ω) hω s17.2 (s17.2.1 45 3) (fX7_latestOutside s17.2 s17.1)  ) gX2_planFor_X7_wishOf (rj_lt hω (k := 8) rfl) (rj_sh hω ly_8) rfl rfl hVX7_wishOf ⟨Nat.le_of_ble_eq_true rfl, Nat.le_of_ble_eq_true rfl⟩ dX2_planFor_50 rfl rfl rfl (Nat.le_of_ble_eq_true rfl) rfl (Nat.le_of_ble_eq_true rfl) rfl ?_
        refine rj_istore (l' := [(5, .int (fX7_wishOf s17.2 (s17.2.1 45 3) (fX7_latestOutside s17.2 s17.1))), (4, .int (fX7_latestOutside s17.2 s17.1)), (0, .ref (ω.2.2 45)), (1, .int a0), (2, .int s17.1), (3, .int (nI j17))]) dX2_planFor_53 rfl (rj_bl rfl) rfl ?_
        refine rj_aload_n 2 dX2_planFor_55 rfl rfl ?_
        refine rj_getR (C0 := RX2) (T := TX2) (N := 4) (j := 2) (r := 46) dX2_planFor_56 rfl vX2_planFor_2 rfl (rj_lt hω (k := 45) rfl) (rj_sh hω ly_45) (by decide) kX2_planFor_9 rfl ?_
        refine rj_iload 1 dX2_planFor_59 rfl rfl ?_
        refine rj_iload 0 dX2_planFor_61 rfl rfl ?_
        refine rj_if_ne dX2_planFor_63 rfl rfl (fun h3 => ?_) (fun h3 => ?_)
        · refine rj_iload 0 dX2_planFor_70 rfl rfl ?_
          refine rj_aload_n 2 dX2_planFor_72 rfl rfl ?_
          refine rj_iload 1 dX2_planFor_73 rfl rfl ?_
          refine rj_cV (rest := [.int (fX7_wishOf s17.2 (s17.2.1 45 3) (fX7_latestOutside s17.2 s17.1)), .int (fX7_latestOutside s17.2 s17.1), .ref (ω.2.2 46)]) (sX2_dearestBehind (g := g) (ω := ω) hω s17.2 (fX7_latestOutside s17.2 s17.1)  ) gX2_planFor_X2_dearestBehind (rj_lt hω (k := 45) rfl) (rj_sh hω ly_45) rfl rfl hVX2_dearestBehind ⟨Nat.le_of_ble_eq_true rfl, Nat.le_of_ble_eq_true rfl⟩ dX2_planFor_75 rfl rfl rfl (Nat.le_of_ble_eq_true rfl) rfl (Nat.le_of_ble_eq_true rfl) rfl ?_
          refine rj_iadd dX2_planFor_78 rfl ?_
          refine rj_cSN (rest := []) (sX11_replace (g := g) (ω := ω) s17.2 46 16 (fX7_latestOutside s17.2 s17.1) ((fX7_wishOf s17.2 (s17.2.1 45 3) (fX7_latestOutside s17.2 s17.1)) + (fX2_dearestBehind s17.2 (fX7_latestOutside s17.2 s17.1))) (rj_lt hω (k := 46) rfl) (rj_sh hω ly_46) (rj_bl rfl) ) ggX2_planFor_X11_replace jX2_planFor_44_i jX2_planFor_44_s jX2_planFor_44_n rfl hSX11_replace ⟨Nat.le_of_ble_eq_true rfl, Nat.le_of_ble_eq_true rfl⟩ dX2_planFor_79 rfl rfl rfl (Nat.le_of_ble_eq_true rfl) rfl (Nat.le_of_ble_eq_true rfl) rfl ?_
          refine rj_pop dX2_planFor_82 rfl rfl ?_
          refine rj_iload_n 4 dX2_planFor_83 rfl rfl ?_
          refine rj_iconst (v := 1) dX2_planFor_84 rfl (by decide) ?_
          refine rj_iload 1 dX2_planFor_85 rfl rfl ?_
          refine rj_ishl dX2_planFor_87 rfl ?_
          refine rj_ior dX2_planFor_88 rfl ?_
          refine rj_istore_n (l' := [(2, .int (s17.1 ||| (1 <<< ((fX7_latestOutside s17.2 s17.1) &&& 31)))), (5, .int (fX7_wishOf s17.2 (s17.2.1 45 3) (fX7_latestOutside s17.2 s17.1))), (4, .int (fX7_latestOutside s17.2 s17.1)), (0, .ref (ω.2.2 45)), (1, .int a0), (3, .int (nI j17))]) dX2_planFor_89 rfl (rj_bl rfl) rfl ?_
          refine rj_iinc (v := nI (j17 + 1)) (l' := [(3, .int (nI (j17 + 1))), (2, .int (s17.1 ||| (1 <<< ((fX7_latestOutside s17.2 s17.1) &&& 31)))), (5, .int (fX7_wishOf s17.2 (s17.2.1 45 3) (fX7_latestOutside s17.2 s17.1))), (4, .int (fX7_latestOutside s17.2 s17.1)), (0, .ref (ω.2.2 45)), (1, .int a0)]) 5 dX2_planFor_90 rfl rfl (nI_succ j17).symm (rj_bl rfl) rfl ?_
          refine rj_goto dX2_planFor_93 rfl ?_
          have e : bX2_planFor_17 μ a0 j17 s17 = .inl ((s17.1 ||| (1 <<< ((fX7_latestOutside s17.2 s17.1) &&& 31))), (mX11_replace s17.2 46 16 (fX7_latestOutside s17.2 s17.1) ((fX7_wishOf s17.2 (s17.2.1 45 3) (fX7_latestOutside s17.2 s17.1)) + (fX2_dearestBehind s17.2 (fX7_latestOutside s17.2 s17.1))))) := by unfold bX2_planFor_17; rw [if_neg h2]; rw [if_neg h3]; try rfl
          exact rj_sub (l' := [(0, .ref (ω.2.2 45)), (1, .int a0), (2, .int (s17.1 ||| (1 <<< ((fX7_latestOutside s17.2 s17.1) &&& 31)))), (3, .int (nI (j17 + 1)))]) [4, 5, 1, 0] rfl (ih (j17 + 1) ((s17.1 ||| (1 <<< ((fX7_latestOutside s17.2 s17.1) &&& 31))), (mX11_replace s17.2 46 16 (fX7_latestOutside s17.2 s17.1) ((fX7_wishOf s17.2 (s17.2.1 45 3) (fX7_latestOutside s17.2 s17.1)) + (fX2_dearestBehind s17.2 (fX7_latestOutside s17.2 s17.1))))) (by omega) (fun z hz => K z (by rw [rj_ix_l e]; exact hz)) (fun z hz => K2 z (by rw [rj_ix_l e]; exact hz)))
        · refine rj_iconst (v := 0) dX2_planFor_66 rfl (by decide) ?_
          refine rj_goto dX2_planFor_67 rfl ?_
          refine rj_cSN (rest := []) (sX11_replace (g := g) (ω := ω) s17.2 46 16 (fX7_latestOutside s17.2 s17.1) 0 (rj_lt hω (k := 46) rfl) (rj_sh hω ly_46) (rj_bl rfl) ) ggX2_planFor_X11_replace jX2_planFor_44_i jX2_planFor_44_s jX2_planFor_44_n rfl hSX11_replace ⟨Nat.le_of_ble_eq_true rfl, Nat.le_of_ble_eq_true rfl⟩ dX2_planFor_79 rfl rfl rfl (Nat.le_of_ble_eq_true rfl) rfl (Nat.le_of_ble_eq_true rfl) rfl ?_
          refine rj_pop dX2_planFor_82 rfl rfl ?_
          refine rj_iload_n 4 dX2_planFor_83 rfl rfl ?_
          refine rj_iconst (v := 1) dX2_planFor_84 rfl (by decide) ?_
          refine rj_iload 1 dX2_planFor_85 rfl rfl ?_
          refine rj_ishl dX2_planFor_87 rfl ?_
          refine rj_ior dX2_planFor_88 rfl ?_
          refine rj_istore_n (l' := [(2, .int (s17.1 ||| (1 <<< ((fX7_latestOutside s17.2 s17.1) &&& 31)))), (5, .int (fX7_wishOf s17.2 (s17.2.1 45 3) (fX7_latestOutside s17.2 s17.1))), (4, .int (fX7_latestOutside s17.2 s17.1)), (0, .ref (ω.2.2 45)), (1, .int a0), (3, .int (nI j17))]) dX2_planFor_89 rfl (rj_bl rfl) rfl ?_
          refine rj_iinc (v := nI (j17 + 1)) (l' := [(3, .int (nI (j17 + 1))), (2, .int (s17.1 ||| (1 <<< ((fX7_latestOutside s17.2 s17.1) &&& 31)))), (5, .int (fX7_wishOf s17.2 (s17.2.1 45 3) (fX7_latestOutside s17.2 s17.1))), (4, .int (fX7_latestOutside s17.2 s17.1)), (0, .ref (ω.2.2 45)), (1, .int a0)]) 5 dX2_planFor_90 rfl rfl (nI_succ j17).symm (rj_bl rfl) rfl ?_
          refine rj_goto dX2_planFor_93 rfl ?_
          have e : bX2_planFor_17 μ a0 j17 s17 = .inl ((s17.1 ||| (1 <<< ((fX7_latestOutside s17.2 s17.1) &&& 31))), (mX11_replace s17.2 46 16 (fX7_latestOutside s17.2 s17.1) 0)) := by unfold bX2_planFor_17; rw [if_neg h2]; rw [if_pos h3]; try rfl
          exact rj_sub (l' := [(0, .ref (ω.2.2 45)), (1, .int a0), (2, .int (s17.1 ||| (1 <<< ((fX7_latestOutside s17.2 s17.1) &&& 31)))), (3, .int (nI (j17 + 1)))]) [4, 5, 1, 0] rfl (ih (j17 + 1) ((s17.1 ||| (1 <<< ((fX7_latestOutside s17.2 s17.1) &&& 31))), (mX11_replace s17.2 46 16 (fX7_latestOutside s17.2 s17.1) 0)) (by omega) (fun z hz => K z (by rw [rj_ix_l e]; exact hz)) (fun z hz => K2 z (by rw [rj_ix_l e]; exact hz)))
      · have e : bX2_planFor_17 μ a0 j17 s17 = .inr s17.2 := by unfold bX2_planFor_17; rw [if_pos h2]; try rfl
        exact rj_vret dX2_planFor_39 rfl (Nat.le_of_ble_eq_true rfl) (Nat.le_of_ble_eq_true rfl) (K2 s17.2 (rj_ix_r e))
set_option maxHeartbeats 4000000 in
theorem lX2_planFor_17u {g : rj_G} {ω : rj_W} (hω : rj_ok ω) (μ : rj_M) (a0 : Int32)     {P : rj_P} : ∀ (r j : Nat) (c0 : Int32) (c1 : rj_M), j + r = 16 → (∀ z : Int32 × rj_M, rj_ix (bX2_planFor_17 μ a0) r j (c0, c1) = .inl z → rj_R g RX2 cX2_planFor 6 none wsX2_planFor [] (rj_rm 4 0) (rj_E g (rj_rm 4 0) P) 0 ω z.2 [(0, .ref (ω.2.2 45)), (1, .int a0), (2, .int z.1), (3, .int (nI 16))] 96 []) → (∀ z : rj_M, rj_ix (bX2_planFor_17 μ a0) r j (c0, c1) = .inr z → P (.inl none) ω z) → rj_R g RX2 cX2_planFor 6 none wsX2_planFor [] (rj_rm 4 0) (rj_E g (rj_rm 4 0) P) 0 ω c1 [(0, .ref (ω.2.2 45)), (1, .int a0), (2, .int c0), (3, .int (nI j))] 17 [] := fun r j c0 c1 => lX2_planFor_17 hω μ a0     r j (c0, c1)
def mX2_planFor (μ : rj_M) (a0 : Int32) : rj_M := (Sum.elim (fun z17 => z17.2) (fun w17 => w17) (rj_ix (bX2_planFor_17 μ a0) 16 0 (0, (mX11_fillRow (rj_pi μ 45 3 a0) 46 16 0))))
set_option maxHeartbeats 4000000 in
set_option maxRecDepth 100000 in
theorem sX2_planFor {g : rj_G} {ω : rj_W} (hω : rj_ok ω) (μ : rj_M) (a0 : Int32)   : rj_Sp g yX2_planFor wsX2_planFor (rj_rm 4 0) [.ref (ω.2.2 45), .int a0] ω μ (rj_D (.inl none) ω (mX2_planFor μ a0)) := by
  refine rj_of' (cc := cX2_planFor) (nL := 6) (ret := none) (own := RX2) (l0 := [(0, .ref (ω.2.2 45)), (1, .int a0)]) rfl (by decide +kernel) rfl (Nat.le_of_ble_eq_true rfl) rfl ?_
  refine rj_aload_n 0 dX2_planFor_0 rfl rfl ?_
  refine rj_iload_n 1 dX2_planFor_1 rfl rfl ?_
  refine rj_putI (C0 := RX2) (T := TX2) (N := 4) (j := 3) dX2_planFor_2 rfl vX2_planFor_2 rfl (rj_lt hω (k := 45) rfl) (rj_sh hω ly_45) (by decide) kX2_planFor_15 tyX2 tyX2_ok nmX2 rfl rfl rfl rfl ?_
  refine rj_aload_n 0 dX2_planFor_5 rfl rfl ?_
  refine rj_getR (C0 := RX2) (T := TX2) (N := 4) (j := 2) (r := 46) dX2_planFor_6 rfl vX2_planFor_2 rfl (rj_lt hω (k := 45) rfl) (rj_sh hω ly_45) (by decide) kX2_planFor_9 rfl ?_
  refine rj_iconst (v := 0) dX2_planFor_9 rfl (by decide) ?_
  refine rj_cSN (rest := []) (sX11_fillRow (g := g) (ω := ω) (rj_pi μ 45 3 a0) 46 16 0 (rj_lt hω (k := 46) rfl) (rj_sh hω ly_46) (rj_bl rfl) ) ggX2_planFor_X11_fillRow jX2_planFor_27_i jX2_planFor_27_s jX2_planFor_27_n rfl hSX11_fillRow ⟨Nat.le_of_ble_eq_true rfl, Nat.le_of_ble_eq_true rfl⟩ dX2_planFor_10 rfl rfl rfl (Nat.le_of_ble_eq_true rfl) rfl (Nat.le_of_ble_eq_true rfl) rfl ?_
  refine rj_iconst (v := 0) dX2_planFor_13 rfl (by decide) ?_
  refine rj_istore_n (l' := [(2, .int 0), (0, .ref (ω.2.2 45)), (1, .int a0)]) dX2_planFor_14 rfl (rj_bl rfl) rfl ?_
  refine rj_iconst (v := 0) dX2_planFor_15 rfl (by decide) ?_
  refine rj_istore_n (l' := [(3, .int 0), (2, .int 0), (0, .ref (ω.2.2 45)), (1, .int a0)]) dX2_planFor_16 rfl (rj_bl rfl) rfl ?_
  refine rj_sub (l' := [(0, .ref (ω.2.2 45)), (1, .int a0), (2, .int 0), (3, .int (nI 0))]) [2, 3, 1, 0] rfl ?_
  refine lX2_planFor_17u hω μ a0     16 0 0 (mX11_fillRow (rj_pi μ 45 3 a0) 46 16 0) rfl (fun z17 hz17 => ?_) (fun w17 hw17 => ?_)
  · exact rj_vret dX2_planFor_96 rfl (Nat.le_of_ble_eq_true rfl) (Nat.le_of_ble_eq_true rfl) ⟨rfl, rfl, (by unfold mX2_planFor; rw [hz17]; simp only [Sum.elim_inl]; try rfl)⟩
  · exact ⟨rfl, rfl, (by unfold mX2_planFor; rw [hw17]; simp only [Sum.elim_inr]; try rfl)⟩
theorem hSX2_priceOf : yX2_priceOf.cls ≠ "java/lang/invoke/MethodHandle" ∧ yX2_priceOf.cls ≠ "java/lang/invoke/VarHandle" ∧ (parseMethodDescriptor yX2_priceOf.desc).map (fun d => d.parameters.length) = some 1 := by decide +kernel
theorem hVX2_priceOf : yX2_priceOf.cls = RX2 ∧ yX2_priceOf.cls ≠ "java/lang/invoke/MethodHandle" ∧ yX2_priceOf.cls ≠ "java/lang/invoke/VarHandle" ∧ (parseMethodDescriptor yX2_priceOf.desc).map (fun d => d.parameters.length) = some 1 := by decide +kernel
theorem vX2_priceOf_2 : ∀ w ∈ u_ws RX2 TX2 4, w ∈ wsX2_priceOf := by decide +kernel
theorem kX2_priceOf_9 : Cond.fieldLink RX2 9 (TX2 2).1 (TX2 2).2.1 (TX2 2).2.2.1 ∈ wsX2_priceOf := by decide +kernel
def fX2_priceOf (μ : rj_M) (a0 : Int32) : Int32 := (if a0 < 0 then 0 else (if a0 < 16 then (μ.1 46 a0.toNatClampNeg) else 0))
set_option maxHeartbeats 4000000 in
set_option maxRecDepth 100000 in
theorem sX2_priceOf {g : rj_G} {ω : rj_W} (hω : rj_ok ω) (μ : rj_M) (a0 : Int32)   : rj_Sp g yX2_priceOf wsX2_priceOf (rj_rm 0 0) [.ref (ω.2.2 45), .int a0] ω μ (rj_D (.inl (some (.int (fX2_priceOf μ a0)))) ω μ) := by
  refine rj_of' (cc := cX2_priceOf) (nL := 2) (ret := (some .int)) (own := RX2) (l0 := [(0, .ref (ω.2.2 45)), (1, .int a0)]) rfl (by decide +kernel) rfl (Nat.le_of_ble_eq_true rfl) rfl ?_
  refine rj_iload_n 1 dX2_priceOf_0 rfl rfl ?_
  refine rj_if_lt dX2_priceOf_1 rfl rfl (fun h1 => ?_) (fun h1 => ?_)
  · refine rj_iconst (v := 0) dX2_priceOf_10 rfl (by decide) ?_
    refine rj_goto dX2_priceOf_11 rfl ?_
    exact rj_iret dX2_priceOf_20 rfl (Nat.le_of_ble_eq_true rfl) (Nat.le_of_ble_eq_true rfl) ⟨(by unfold fX2_priceOf; rw [if_pos h1]; try rfl), rfl, rfl⟩
  · refine rj_iload_n 1 dX2_priceOf_4 rfl rfl ?_
    refine rj_bipush (v := 16) dX2_priceOf_5 rfl (by decide) ?_
    refine rj_icmp_lt dX2_priceOf_7 rfl rfl (fun h2 => ?_) (fun h2 => ?_)
    · refine rj_aload_n 0 dX2_priceOf_14 rfl rfl ?_
      refine rj_getR (C0 := RX2) (T := TX2) (N := 4) (j := 2) (r := 46) dX2_priceOf_15 rfl vX2_priceOf_2 rfl (rj_lt hω (k := 45) rfl) (rj_sh hω ly_45) (by decide) kX2_priceOf_9 rfl ?_
      refine rj_iload_n 1 dX2_priceOf_18 rfl rfl ?_
      refine rj_iald dX2_priceOf_19 rfl (rj_lt hω (k := 46) rfl) (rj_sh hω ly_46) (rj_in h1 (Int32.not_le.mpr h2) rfl) ?_
      exact rj_iret dX2_priceOf_20 rfl (Nat.le_of_ble_eq_true rfl) (Nat.le_of_ble_eq_true rfl) ⟨(by unfold fX2_priceOf; rw [if_neg h1]; rw [if_pos h2]; try rfl), rfl, rfl⟩
    · refine rj_iconst (v := 0) dX2_priceOf_10 rfl (by decide) ?_
      refine rj_goto dX2_priceOf_11 rfl ?_
      exact rj_iret dX2_priceOf_20 rfl (Nat.le_of_ble_eq_true rfl) (Nat.le_of_ble_eq_true rfl) ⟨(by unfold fX2_priceOf; rw [if_neg h1]; rw [if_neg h2]; try rfl), rfl, rfl⟩
theorem hSX2_greatestPrice : yX2_greatestPrice.cls ≠ "java/lang/invoke/MethodHandle" ∧ yX2_greatestPrice.cls ≠ "java/lang/invoke/VarHandle" ∧ (parseMethodDescriptor yX2_greatestPrice.desc).map (fun d => d.parameters.length) = some 1 := by decide +kernel
theorem hVX2_greatestPrice : yX2_greatestPrice.cls = RX2 ∧ yX2_greatestPrice.cls ≠ "java/lang/invoke/MethodHandle" ∧ yX2_greatestPrice.cls ≠ "java/lang/invoke/VarHandle" ∧ (parseMethodDescriptor yX2_greatestPrice.desc).map (fun d => d.parameters.length) = some 1 := by decide +kernel
theorem vX2_greatestPrice_2 : ∀ w ∈ u_ws RX2 TX2 4, w ∈ wsX2_greatestPrice := by decide +kernel
theorem kX2_greatestPrice_23 : Cond.fieldLink RX2 23 (TX2 1).1 (TX2 1).2.1 (TX2 1).2.2.1 ∈ wsX2_greatestPrice := by decide +kernel
theorem kX2_greatestPrice_9 : Cond.fieldLink RX2 9 (TX2 2).1 (TX2 2).2.1 (TX2 2).2.2.1 ∈ wsX2_greatestPrice := by decide +kernel
theorem jX2_greatestPrice_69_0 : Cond.methodLink RX2 69 Lib.Math.max.name ∈ wsX2_greatestPrice := by decide +kernel
theorem jX2_greatestPrice_69_1 : Cond.static Lib.Math.max.name ∈ wsX2_greatestPrice := by decide +kernel
theorem jX2_greatestPrice_69_2 : Cond.initialized "java/lang/Math" ∈ wsX2_greatestPrice := by decide +kernel
theorem jX2_greatestPrice_69_3 : Cond.code Lib.Math.max.name Lib.Math.max.code 2 (some .int) ∈ wsX2_greatestPrice := by decide +kernel
def bX2_greatestPrice_4 (μ : rj_M) (a0 : Int32) (j4 : Nat) (s4 : Int32) : Int32 := (if (fX7_dayOf μ (nI j4)) = a0 then (if s4 < (μ.1 46 (nI j4).toNatClampNeg) then (μ.1 46 (nI j4).toNatClampNeg) else s4) else s4)
set_option maxHeartbeats 4000000 in
set_option maxRecDepth 100000 in
theorem lX2_greatestPrice_4 {g : rj_G} {ω : rj_W} (hω : rj_ok ω) (μ : rj_M) (a0 : Int32)     {F : rj_F} : ∀ (r j : Nat) (s : Int32), j + r = 16 → (rj_R g RX2 cX2_greatestPrice 4 (some .int) wsX2_greatestPrice [] (rj_rm 2 0) F 0 ω μ [(0, .ref (ω.2.2 45)), (1, .int a0), (2, .int (rj_fo (bX2_greatestPrice_4 μ a0) r j s)), (3, .int (nI 16))] 39 []) → rj_R g RX2 cX2_greatestPrice 4 (some .int) wsX2_greatestPrice [] (rj_rm 2 0) F 0 ω μ [(0, .ref (ω.2.2 45)), (1, .int a0), (2, .int s), (3, .int (nI j))] 4 [] := by
  intro r
  induction r with
  | zero =>
    intro j s hj K
    have e0 : j = 16 := by omega
    have hge : 16 ≤ nI j := by
      rw [e0]
      exact Int32.le_refl _
    refine rj_iload_n 3 dX2_greatestPrice_4 rfl rfl ?_
    refine rj_bipush (v := 16) dX2_greatestPrice_5 rfl (by decide) ?_
    refine rj_icmp_ge dX2_greatestPrice_7 rfl rfl (fun h3 => ?_) (fun h3 => ?_)
    · have e1 : nI j = nI 16 := by rw [e0]
      rw [e1]
      exact K
    · exact absurd hge h3
  | succ r ih =>
    intro j4 s4 hj K
    have hl4 : j4 < 16 := by omega
    have hg4 : ¬ 16 ≤ nI j4 := nI_ge hl4 (rj_bl rfl)
    refine rj_iload_n 3 dX2_greatestPrice_4 rfl rfl ?_
    refine rj_bipush (v := 16) dX2_greatestPrice_5 rfl (by decide) ?_
    refine rj_icmp_ge dX2_greatestPrice_7 rfl rfl (fun h1 => ?_) (fun h1 => ?_)
    · exact absurd h1 hg4
    · refine rj_aload_n 0 dX2_greatestPrice_10 rfl rfl ?_
      refine rj_getR (C0 := RX2) (T := TX2) (N := 4) (j := 1) (r := 8) dX2_greatestPrice_11 rfl vX2_greatestPrice_2 rfl (rj_lt hω (k := 45) rfl) (rj_sh hω ly_45) (by decide) kX2_greatestPrice_23 rfl ?_
      refine rj_iload_n 3 dX2_greatestPrice_14 rfl rfl ?_
      refine rj_cV (rest := []) (sX7_dayOf (g := g) (ω := ω) hω μ (nI j4)  ) gX2_greatestPrice_X7_dayOf (rj_lt hω (k := 8) rfl) (rj_sh hω ly_8) rfl rfl hVX7_dayOf ⟨Nat.le_of_ble_eq_true rfl, Nat.le_of_ble_eq_true rfl⟩ dX2_greatestPrice_15 rfl rfl rfl (Nat.le_of_ble_eq_true rfl) rfl (Nat.le_of_ble_eq_true rfl) rfl ?_
      refine rj_iload_n 1 dX2_greatestPrice_18 rfl rfl ?_
      refine rj_icmp_ne dX2_greatestPrice_19 rfl rfl (fun h2 => ?_) (fun h2 => ?_)
      · refine rj_iinc (v := nI (j4 + 1)) (l' := [(3, .int (nI (j4 + 1))), (0, .ref (ω.2.2 45)), (1, .int a0), (2, .int s4)]) 3 dX2_greatestPrice_33 rfl rfl (nI_succ j4).symm (rj_bl rfl) rfl ?_
        refine rj_goto dX2_greatestPrice_36 rfl ?_
        have e : bX2_greatestPrice_4 μ a0 j4 s4 = s4 := by unfold bX2_greatestPrice_4; rw [if_neg h2]; try rfl
        exact rj_sub (l' := [(0, .ref (ω.2.2 45)), (1, .int a0), (2, .int s4), (3, .int (nI (j4 + 1)))]) [1, 2, 3, 0] rfl (ih (j4 + 1) s4 (by omega) (by rw [rj_fo_s, e] at K; exact K))
      · refine rj_iload_n 2 dX2_greatestPrice_22 rfl rfl ?_
        refine rj_aload_n 0 dX2_greatestPrice_23 rfl rfl ?_
        refine rj_getR (C0 := RX2) (T := TX2) (N := 4) (j := 2) (r := 46) dX2_greatestPrice_24 rfl vX2_greatestPrice_2 rfl (rj_lt hω (k := 45) rfl) (rj_sh hω ly_45) (by decide) kX2_greatestPrice_9 rfl ?_
        refine rj_iload_n 3 dX2_greatestPrice_27 rfl rfl ?_
        refine rj_iald dX2_greatestPrice_28 rfl (rj_lt hω (k := 46) rfl) (rj_sh hω ly_46) (vp_in_nI hl4 (rj_bl rfl)) ?_
        refine rj_mmax dX2_greatestPrice_29 rfl jX2_greatestPrice_69_0 jX2_greatestPrice_69_1 jX2_greatestPrice_69_2 jX2_greatestPrice_69_3 (Nat.le_of_ble_eq_true rfl) (Nat.le_of_ble_eq_true rfl) (Nat.le_of_ble_eq_true rfl) (Nat.le_of_ble_eq_true rfl) ?_
        refine rj_istore_n (l' := [(2, .int (if s4 < (μ.1 46 (nI j4).toNatClampNeg) then (μ.1 46 (nI j4).toNatClampNeg) else s4)), (0, .ref (ω.2.2 45)), (1, .int a0), (3, .int (nI j4))]) dX2_greatestPrice_32 rfl (rj_bl rfl) rfl ?_
        refine rj_iinc (v := nI (j4 + 1)) (l' := [(3, .int (nI (j4 + 1))), (2, .int (if s4 < (μ.1 46 (nI j4).toNatClampNeg) then (μ.1 46 (nI j4).toNatClampNeg) else s4)), (0, .ref (ω.2.2 45)), (1, .int a0)]) 3 dX2_greatestPrice_33 rfl rfl (nI_succ j4).symm (rj_bl rfl) rfl ?_
        refine rj_goto dX2_greatestPrice_36 rfl ?_
        have e : bX2_greatestPrice_4 μ a0 j4 s4 = (if s4 < (μ.1 46 (nI j4).toNatClampNeg) then (μ.1 46 (nI j4).toNatClampNeg) else s4) := by unfold bX2_greatestPrice_4; rw [if_pos h2]; try rfl
        exact rj_sub (l' := [(0, .ref (ω.2.2 45)), (1, .int a0), (2, .int (if s4 < (μ.1 46 (nI j4).toNatClampNeg) then (μ.1 46 (nI j4).toNatClampNeg) else s4)), (3, .int (nI (j4 + 1)))]) [2, 3, 1, 0] rfl (ih (j4 + 1) (if s4 < (μ.1 46 (nI j4).toNatClampNeg) then (μ.1 46 (nI j4).toNatClampNeg) else s4) (by omega) (by rw [rj_fo_s, e] at K; exact K))
def fX2_greatestPrice (μ : rj_M) (a0 : Int32) : Int32 := (rj_fo (bX2_greatestPrice_4 μ a0) 16 0 0)
set_option maxHeartbeats 4000000 in
set_option maxRecDepth 100000 in
theorem sX2_greatestPrice {g : rj_G} {ω : rj_W} (hω : rj_ok ω) (μ : rj_M) (a0 : Int32)   : rj_Sp g yX2_greatestPrice wsX2_greatestPrice (rj_rm 2 0) [.ref (ω.2.2 45), .int a0] ω μ (rj_D (.inl (some (.int (fX2_greatestPrice μ a0)))) ω μ) := by
  refine rj_of' (cc := cX2_greatestPrice) (nL := 4) (ret := (some .int)) (own := RX2) (l0 := [(0, .ref (ω.2.2 45)), (1, .int a0)]) rfl (by decide +kernel) rfl (Nat.le_of_ble_eq_true rfl) rfl ?_
  refine rj_iconst (v := 0) dX2_greatestPrice_0 rfl (by decide) ?_
  refine rj_istore_n (l' := [(2, .int 0), (0, .ref (ω.2.2 45)), (1, .int a0)]) dX2_greatestPrice_1 rfl (rj_bl rfl) rfl ?_
  refine rj_iconst (v := 0) dX2_greatestPrice_2 rfl (by decide) ?_
  refine rj_istore_n (l' := [(3, .int 0), (2, .int 0), (0, .ref (ω.2.2 45)), (1, .int a0)]) dX2_greatestPrice_3 rfl (rj_bl rfl) rfl ?_
  refine rj_sub (l' := [(0, .ref (ω.2.2 45)), (1, .int a0), (2, .int 0), (3, .int (nI 0))]) [2, 3, 1, 0] rfl ?_
  refine lX2_greatestPrice_4 hω μ a0     16 0 0 rfl ?_
  refine rj_iload_n 2 dX2_greatestPrice_39 rfl rfl ?_
  exact rj_iret dX2_greatestPrice_40 rfl (Nat.le_of_ble_eq_true rfl) (Nat.le_of_ble_eq_true rfl) ⟨(by unfold fX2_greatestPrice; rfl), rfl, rfl⟩
theorem hSX2_firstOn : yX2_firstOn.cls ≠ "java/lang/invoke/MethodHandle" ∧ yX2_firstOn.cls ≠ "java/lang/invoke/VarHandle" ∧ (parseMethodDescriptor yX2_firstOn.desc).map (fun d => d.parameters.length) = some 1 := by decide +kernel
theorem hVX2_firstOn : yX2_firstOn.cls = RX2 ∧ yX2_firstOn.cls ≠ "java/lang/invoke/MethodHandle" ∧ yX2_firstOn.cls ≠ "java/lang/invoke/VarHandle" ∧ (parseMethodDescriptor yX2_firstOn.desc).map (fun d => d.parameters.length) = some 1 := by decide +kernel
theorem vX2_firstOn_2 : ∀ w ∈ u_ws RX2 TX2 4, w ∈ wsX2_firstOn := by decide +kernel
theorem kX2_firstOn_9 : Cond.fieldLink RX2 9 (TX2 2).1 (TX2 2).2.1 (TX2 2).2.2.1 ∈ wsX2_firstOn := by decide +kernel
theorem kX2_firstOn_23 : Cond.fieldLink RX2 23 (TX2 1).1 (TX2 1).2.1 (TX2 1).2.2.1 ∈ wsX2_firstOn := by decide +kernel
def bX2_firstOn_8 (μ : rj_M) (a0 : Int32) (j8 : Nat) (s8 : Unit) : Unit ⊕ Int32 := (if (fX2_greatestPrice μ a0) ≤ 0 then .inl () else (if (μ.1 46 (nI j8).toNatClampNeg) = (fX2_greatestPrice μ a0) then (if (fX7_dayOf μ (nI j8)) = a0 then .inr (nI j8) else .inl ()) else .inl ()))
set_option maxHeartbeats 4000000 in
set_option maxRecDepth 100000 in
theorem lX2_firstOn_8 {g : rj_G} {ω : rj_W} (hω : rj_ok ω) (μ : rj_M) (a0 : Int32)     {P : rj_P} : ∀ (r j : Nat) (s : Unit), j + r = 16 → (∀ z : Unit, rj_ix (bX2_firstOn_8 μ a0) r j s = .inl z → rj_R g RX2 cX2_firstOn 4 (some .int) wsX2_firstOn [] (rj_rm 3 0) (rj_E g (rj_rm 3 0) P) 0 ω μ [(0, .ref (ω.2.2 45)), (1, .int a0), (2, .int (fX2_greatestPrice μ a0)), (3, .int (nI 16))] 48 []) → (∀ z : Int32, rj_ix (bX2_firstOn_8 μ a0) r j s = .inr z → P (.inl (some (.int z))) ω μ) → rj_R g RX2 cX2_firstOn 4 (some .int) wsX2_firstOn [] (rj_rm 3 0) (rj_E g (rj_rm 3 0) P) 0 ω μ [(0, .ref (ω.2.2 45)), (1, .int a0), (2, .int (fX2_greatestPrice μ a0)), (3, .int (nI j))] 8 [] := by
  intro r
  induction r with
  | zero =>
    intro j s hj K K2
    have e0 : j = 16 := by omega
    have hge : 16 ≤ nI j := by
      rw [e0]
      exact Int32.le_refl _
    refine rj_iload_n 3 dX2_firstOn_8 rfl rfl ?_
    refine rj_bipush (v := 16) dX2_firstOn_9 rfl (by decide) ?_
    refine rj_icmp_ge dX2_firstOn_11 rfl rfl (fun h5 => ?_) (fun h5 => ?_)
    · have e1 : nI j = nI 16 := by rw [e0]
      rw [e1]
      exact K s rfl
    · exact absurd hge h5
  | succ r ih =>
    intro j8 s8 hj K K2
    have hl8 : j8 < 16 := by omega
    have hg8 : ¬ 16 ≤ nI j8 := nI_ge hl8 (rj_bl rfl)
    refine rj_iload_n 3 dX2_firstOn_8 rfl rfl ?_
    refine rj_bipush (v := 16) dX2_firstOn_9 rfl (by decide) ?_
    refine rj_icmp_ge dX2_firstOn_11 rfl rfl (fun h1 => ?_) (fun h1 => ?_)
    · exact absurd h1 hg8
    · refine rj_iload_n 2 dX2_firstOn_14 rfl rfl ?_
      refine rj_if_le dX2_firstOn_15 rfl rfl (fun h2 => ?_) (fun h2 => ?_)
      · refine rj_iinc (v := nI (j8 + 1)) (l' := [(3, .int (nI (j8 + 1))), (0, .ref (ω.2.2 45)), (1, .int a0), (2, .int (fX2_greatestPrice μ a0))]) 3 dX2_firstOn_42 rfl rfl (nI_succ j8).symm (rj_bl rfl) rfl ?_
        refine rj_goto dX2_firstOn_45 rfl ?_
        have e : bX2_firstOn_8 μ a0 j8 s8 = .inl () := by unfold bX2_firstOn_8; rw [if_pos h2]; try rfl
        exact rj_sub (l' := [(0, .ref (ω.2.2 45)), (1, .int a0), (2, .int (fX2_greatestPrice μ a0)), (3, .int (nI (j8 + 1)))]) [1, 2, 3, 0] rfl (ih (j8 + 1) () (by omega) (fun z hz => K z (by rw [rj_ix_l e]; exact hz)) (fun z hz => K2 z (by rw [rj_ix_l e]; exact hz)))
      · refine rj_aload_n 0 dX2_firstOn_18 rfl rfl ?_
        refine rj_getR (C0 := RX2) (T := TX2) (N := 4) (j := 2) (r := 46) dX2_firstOn_19 rfl vX2_firstOn_2 rfl (rj_lt hω (k := 45) rfl) (rj_sh hω ly_45) (by decide) kX2_firstOn_9 rfl ?_
        refine rj_iload_n 3 dX2_firstOn_22 rfl rfl ?_
        refine rj_iald dX2_firstOn_23 rfl (rj_lt hω (k := 46) rfl) (rj_sh hω ly_46) (vp_in_nI hl8 (rj_bl rfl)) ?_
        refine rj_iload_n 2 dX2_firstOn_24 rfl rfl ?_
        refine rj_icmp_ne dX2_firstOn_25 rfl rfl (fun h3 => ?_) (fun h3 => ?_)
        · refine rj_iinc (v := nI (j8 + 1)) (l' := [(3, .int (nI (j8 + 1))), (0, .ref (ω.2.2 45)), (1, .int a0), (2, .int (fX2_greatestPrice μ a0))]) 3 dX2_firstOn_42 rfl rfl (nI_succ j8).symm (rj_bl rfl) rfl ?_
          refine rj_goto dX2_firstOn_45 rfl ?_
          have e : bX2_firstOn_8 μ a0 j8 s8 = .inl () := by unfold bX2_firstOn_8; rw [if_neg h2]; rw [if_neg h3]; try rfl
          exact rj_sub (l' := [(0, .ref (ω.2.2 45)), (1, .int a0), (2, .int (fX2_greatestPrice μ a0)), (3, .int (nI (j8 + 1)))]) [1, 2, 3, 0] rfl (ih (j8 + 1) () (by omega) (fun z hz => K z (by rw [rj_ix_l e]; exact hz)) (fun z hz => K2 z (by rw [rj_ix_l e]; exact hz)))
        · refine rj_aload_n 0 dX2_firstOn_28 rfl rfl ?_
          refine rj_getR (C0 := RX2) (T := TX2) (N := 4) (j := 1) (r := 8) dX2_firstOn_29 rfl vX2_firstOn_2 rfl (rj_lt hω (k := 45) rfl) (rj_sh hω ly_45) (by decide) kX2_firstOn_23 rfl ?_
          refine rj_iload_n 3 dX2_firstOn_32 rfl rfl ?_
          refine rj_cV (rest := []) (sX7_dayOf (g := g) (ω := ω) hω μ (nI j8)  ) gX2_firstOn_X7_dayOf (rj_lt hω (k := 8) rfl) (rj_sh hω ly_8) rfl rfl hVX7_dayOf ⟨Nat.le_of_ble_eq_true rfl, Nat.le_of_ble_eq_true rfl⟩ dX2_firstOn_33 rfl rfl rfl (Nat.le_of_ble_eq_true rfl) rfl (Nat.le_of_ble_eq_true rfl) rfl ?_
          refine rj_iload_n 1 dX2_firstOn_36 rfl rfl ?_
          refine rj_icmp_ne dX2_firstOn_37 rfl rfl (fun h4 => ?_) (fun h4 => ?_)
          · refine rj_iinc (v := nI (j8 + 1)) (l' := [(3, .int (nI (j8 + 1))), (0, .ref (ω.2.2 45)), (1, .int a0), (2, .int (fX2_greatestPrice μ a0))]) 3 dX2_firstOn_42 rfl rfl (nI_succ j8).symm (rj_bl rfl) rfl ?_
            refine rj_goto dX2_firstOn_45 rfl ?_
            have e : bX2_firstOn_8 μ a0 j8 s8 = .inl () := by unfold bX2_firstOn_8; rw [if_neg h2]; rw [if_pos h3]; rw [if_neg h4]; try rfl
            exact rj_sub (l' := [(0, .ref (ω.2.2 45)), (1, .int a0), (2, .int (fX2_greatestPrice μ a0)), (3, .int (nI (j8 + 1)))]) [1, 2, 3, 0] rfl (ih (j8 + 1) () (by omega) (fun z hz => K z (by rw [rj_ix_l e]; exact hz)) (fun z hz => K2 z (by rw [rj_ix_l e]; exact hz)))
          · refine rj_iload_n 3 dX2_firstOn_40 rfl rfl ?_
            have e : bX2_firstOn_8 μ a0 j8 s8 = .inr (nI j8) := by unfold bX2_firstOn_8; rw [if_neg h2]; rw [if_pos h3]; rw [if_pos h4]; try rfl
            exact rj_iret dX2_firstOn_41 rfl (Nat.le_of_ble_eq_true rfl) (Nat.le_of_ble_eq_true rfl) (K2 (nI j8) (rj_ix_r e))
def fX2_firstOn (μ : rj_M) (a0 : Int32) : Int32 := (Sum.elim (fun z8 => (-1)) (fun w8 => w8) (rj_ix (bX2_firstOn_8 μ a0) 16 0 ()))
set_option maxHeartbeats 4000000 in
set_option maxRecDepth 100000 in
theorem sX2_firstOn {g : rj_G} {ω : rj_W} (hω : rj_ok ω) (μ : rj_M) (a0 : Int32)   : rj_Sp g yX2_firstOn wsX2_firstOn (rj_rm 3 0) [.ref (ω.2.2 45), .int a0] ω μ (rj_D (.inl (some (.int (fX2_firstOn μ a0)))) ω μ) := by
  refine rj_of' (cc := cX2_firstOn) (nL := 4) (ret := (some .int)) (own := RX2) (l0 := [(0, .ref (ω.2.2 45)), (1, .int a0)]) rfl (by decide +kernel) rfl (Nat.le_of_ble_eq_true rfl) rfl ?_
  refine rj_aload_n 0 dX2_firstOn_0 rfl rfl ?_
  refine rj_iload_n 1 dX2_firstOn_1 rfl rfl ?_
  refine rj_cV (rest := []) (sX2_greatestPrice (g := g) (ω := ω) hω μ a0  ) gX2_firstOn_X2_greatestPrice (rj_lt hω (k := 45) rfl) (rj_sh hω ly_45) rfl rfl hVX2_greatestPrice ⟨Nat.le_of_ble_eq_true rfl, Nat.le_of_ble_eq_true rfl⟩ dX2_firstOn_2 rfl rfl rfl (Nat.le_of_ble_eq_true rfl) rfl (Nat.le_of_ble_eq_true rfl) rfl ?_
  refine rj_istore_n (l' := [(2, .int (fX2_greatestPrice μ a0)), (0, .ref (ω.2.2 45)), (1, .int a0)]) dX2_firstOn_5 rfl (rj_bl rfl) rfl ?_
  refine rj_iconst (v := 0) dX2_firstOn_6 rfl (by decide) ?_
  refine rj_istore_n (l' := [(3, .int 0), (2, .int (fX2_greatestPrice μ a0)), (0, .ref (ω.2.2 45)), (1, .int a0)]) dX2_firstOn_7 rfl (rj_bl rfl) rfl ?_
  refine rj_sub (l' := [(0, .ref (ω.2.2 45)), (1, .int a0), (2, .int (fX2_greatestPrice μ a0)), (3, .int (nI 0))]) [2, 3, 1, 0] rfl ?_
  refine lX2_firstOn_8 hω μ a0     16 0 () rfl (fun z8 hz8 => ?_) (fun w8 hw8 => ?_)
  · refine rj_iconst (v := (-1)) dX2_firstOn_48 rfl (by decide) ?_
    exact rj_iret dX2_firstOn_49 rfl (Nat.le_of_ble_eq_true rfl) (Nat.le_of_ble_eq_true rfl) ⟨(by unfold fX2_firstOn; rw [hz8]; simp only [Sum.elim_inl]; try rfl), rfl, rfl⟩
  · exact ⟨(by unfold fX2_firstOn; rw [hw8]; simp only [Sum.elim_inr]; try rfl), rfl, rfl⟩
theorem hSX2_nextBehind : yX2_nextBehind.cls ≠ "java/lang/invoke/MethodHandle" ∧ yX2_nextBehind.cls ≠ "java/lang/invoke/VarHandle" ∧ (parseMethodDescriptor yX2_nextBehind.desc).map (fun d => d.parameters.length) = some 1 := by decide +kernel
theorem hVX2_nextBehind : yX2_nextBehind.cls = RX2 ∧ yX2_nextBehind.cls ≠ "java/lang/invoke/MethodHandle" ∧ yX2_nextBehind.cls ≠ "java/lang/invoke/VarHandle" ∧ (parseMethodDescriptor yX2_nextBehind.desc).map (fun d => d.parameters.length) = some 1 := by decide +kernel
theorem vX2_nextBehind_2 : ∀ w ∈ u_ws RX2 TX2 4, w ∈ wsX2_nextBehind := by decide +kernel
theorem kX2_nextBehind_23 : Cond.fieldLink RX2 23 (TX2 1).1 (TX2 1).2.1 (TX2 1).2.2.1 ∈ wsX2_nextBehind := by decide +kernel
theorem kX2_nextBehind_15 : Cond.fieldLink RX2 15 (TX2 3).1 (TX2 3).2.1 (TX2 3).2.2.1 ∈ wsX2_nextBehind := by decide +kernel
theorem kX2_nextBehind_9 : Cond.fieldLink RX2 9 (TX2 2).1 (TX2 2).2.1 (TX2 2).2.2.1 ∈ wsX2_nextBehind := by decide +kernel
def bX2_nextBehind_21 (μ : rj_M) (a0 : Int32) (j21 : Nat) (s21 : Unit) : Unit ⊕ Int32 := (if ((fX2_priceOf μ a0) - (fX7_wishOf μ (μ.1 45 3) a0)) ≤ 0 then .inl () else (if (μ.1 46 (nI j21).toNatClampNeg) = ((fX2_priceOf μ a0) - (fX7_wishOf μ (μ.1 45 3) a0)) then (if (fX2_isReached μ (nI j21) a0) = 0 then .inl () else .inr (nI j21)) else .inl ()))
set_option maxHeartbeats 4000000 in
set_option maxRecDepth 100000 in
theorem lX2_nextBehind_21 {g : rj_G} {ω : rj_W} (hω : rj_ok ω) (μ : rj_M) (a0 : Int32)     {P : rj_P} : ∀ (r j : Nat) (s : Unit), j + r = 16 → (∀ z : Unit, rj_ix (bX2_nextBehind_21 μ a0) r j s = .inl z → rj_R g RX2 cX2_nextBehind 4 (some .int) wsX2_nextBehind [] (rj_rm 3 0) (rj_E g (rj_rm 3 0) P) 0 ω μ [(0, .ref (ω.2.2 45)), (1, .int a0), (2, .int ((fX2_priceOf μ a0) - (fX7_wishOf μ (μ.1 45 3) a0))), (3, .int (nI 16))] 58 []) → (∀ z : Int32, rj_ix (bX2_nextBehind_21 μ a0) r j s = .inr z → P (.inl (some (.int z))) ω μ) → rj_R g RX2 cX2_nextBehind 4 (some .int) wsX2_nextBehind [] (rj_rm 3 0) (rj_E g (rj_rm 3 0) P) 0 ω μ [(0, .ref (ω.2.2 45)), (1, .int a0), (2, .int ((fX2_priceOf μ a0) - (fX7_wishOf μ (μ.1 45 3) a0))), (3, .int (nI j))] 21 [] := by
  intro r
  induction r with
  | zero =>
    intro j s hj K K2
    have e0 : j = 16 := by omega
    have hge : 16 ≤ nI j := by
      rw [e0]
      exact Int32.le_refl _
    refine rj_iload_n 3 dX2_nextBehind_21 rfl rfl ?_
    refine rj_bipush (v := 16) dX2_nextBehind_22 rfl (by decide) ?_
    refine rj_icmp_ge dX2_nextBehind_24 rfl rfl (fun h5 => ?_) (fun h5 => ?_)
    · have e1 : nI j = nI 16 := by rw [e0]
      rw [e1]
      exact K s rfl
    · exact absurd hge h5
  | succ r ih =>
    intro j21 s21 hj K K2
    have hl21 : j21 < 16 := by omega
    have hg21 : ¬ 16 ≤ nI j21 := nI_ge hl21 (rj_bl rfl)
    refine rj_iload_n 3 dX2_nextBehind_21 rfl rfl ?_
    refine rj_bipush (v := 16) dX2_nextBehind_22 rfl (by decide) ?_
    refine rj_icmp_ge dX2_nextBehind_24 rfl rfl (fun h1 => ?_) (fun h1 => ?_)
    · exact absurd h1 hg21
    · refine rj_iload_n 2 dX2_nextBehind_27 rfl rfl ?_
      refine rj_if_le dX2_nextBehind_28 rfl rfl (fun h2 => ?_) (fun h2 => ?_)
      · refine rj_iinc (v := nI (j21 + 1)) (l' := [(3, .int (nI (j21 + 1))), (0, .ref (ω.2.2 45)), (1, .int a0), (2, .int ((fX2_priceOf μ a0) - (fX7_wishOf μ (μ.1 45 3) a0)))]) 3 dX2_nextBehind_52 rfl rfl (nI_succ j21).symm (rj_bl rfl) rfl ?_
        refine rj_goto dX2_nextBehind_55 rfl ?_
        have e : bX2_nextBehind_21 μ a0 j21 s21 = .inl () := by unfold bX2_nextBehind_21; rw [if_pos h2]; try rfl
        exact rj_sub (l' := [(0, .ref (ω.2.2 45)), (1, .int a0), (2, .int ((fX2_priceOf μ a0) - (fX7_wishOf μ (μ.1 45 3) a0))), (3, .int (nI (j21 + 1)))]) [1, 2, 3, 0] rfl (ih (j21 + 1) () (by omega) (fun z hz => K z (by rw [rj_ix_l e]; exact hz)) (fun z hz => K2 z (by rw [rj_ix_l e]; exact hz)))
      · refine rj_aload_n 0 dX2_nextBehind_31 rfl rfl ?_
        refine rj_getR (C0 := RX2) (T := TX2) (N := 4) (j := 2) (r := 46) dX2_nextBehind_32 rfl vX2_nextBehind_2 rfl (rj_lt hω (k := 45) rfl) (rj_sh hω ly_45) (by decide) kX2_nextBehind_9 rfl ?_
        refine rj_iload_n 3 dX2_nextBehind_35 rfl rfl ?_
        refine rj_iald dX2_nextBehind_36 rfl (rj_lt hω (k := 46) rfl) (rj_sh hω ly_46) (vp_in_nI hl21 (rj_bl rfl)) ?_
        refine rj_iload_n 2 dX2_nextBehind_37 rfl rfl ?_
        refine rj_icmp_ne dX2_nextBehind_38 rfl rfl (fun h3 => ?_) (fun h3 => ?_)
        · refine rj_iinc (v := nI (j21 + 1)) (l' := [(3, .int (nI (j21 + 1))), (0, .ref (ω.2.2 45)), (1, .int a0), (2, .int ((fX2_priceOf μ a0) - (fX7_wishOf μ (μ.1 45 3) a0)))]) 3 dX2_nextBehind_52 rfl rfl (nI_succ j21).symm (rj_bl rfl) rfl ?_
          refine rj_goto dX2_nextBehind_55 rfl ?_
          have e : bX2_nextBehind_21 μ a0 j21 s21 = .inl () := by unfold bX2_nextBehind_21; rw [if_neg h2]; rw [if_neg h3]; try rfl
          exact rj_sub (l' := [(0, .ref (ω.2.2 45)), (1, .int a0), (2, .int ((fX2_priceOf μ a0) - (fX7_wishOf μ (μ.1 45 3) a0))), (3, .int (nI (j21 + 1)))]) [1, 2, 3, 0] rfl (ih (j21 + 1) () (by omega) (fun z hz => K z (by rw [rj_ix_l e]; exact hz)) (fun z hz => K2 z (by rw [rj_ix_l e]; exact hz)))
        · refine rj_aload_n 0 dX2_nextBehind_41 rfl rfl ?_
          refine rj_iload_n 3 dX2_nextBehind_42 rfl rfl ?_
          refine rj_iload_n 1 dX2_nextBehind_43 rfl rfl ?_
          refine rj_cV (rest := []) (sX2_isReached (g := g) (ω := ω) hω μ (nI j21) a0  ) gX2_nextBehind_X2_isReached (rj_lt hω (k := 45) rfl) (rj_sh hω ly_45) rfl rfl hVX2_isReached ⟨Nat.le_of_ble_eq_true rfl, Nat.le_of_ble_eq_true rfl⟩ dX2_nextBehind_44 rfl rfl rfl (Nat.le_of_ble_eq_true rfl) rfl (Nat.le_of_ble_eq_true rfl) rfl ?_
          refine rj_if_eq dX2_nextBehind_47 rfl rfl (fun h4 => ?_) (fun h4 => ?_)
          · refine rj_iinc (v := nI (j21 + 1)) (l' := [(3, .int (nI (j21 + 1))), (0, .ref (ω.2.2 45)), (1, .int a0), (2, .int ((fX2_priceOf μ a0) - (fX7_wishOf μ (μ.1 45 3) a0)))]) 3 dX2_nextBehind_52 rfl rfl (nI_succ j21).symm (rj_bl rfl) rfl ?_
            refine rj_goto dX2_nextBehind_55 rfl ?_
            have e : bX2_nextBehind_21 μ a0 j21 s21 = .inl () := by unfold bX2_nextBehind_21; rw [if_neg h2]; rw [if_pos h3]; rw [if_pos h4]; try rfl
            exact rj_sub (l' := [(0, .ref (ω.2.2 45)), (1, .int a0), (2, .int ((fX2_priceOf μ a0) - (fX7_wishOf μ (μ.1 45 3) a0))), (3, .int (nI (j21 + 1)))]) [1, 2, 3, 0] rfl (ih (j21 + 1) () (by omega) (fun z hz => K z (by rw [rj_ix_l e]; exact hz)) (fun z hz => K2 z (by rw [rj_ix_l e]; exact hz)))
          · refine rj_iload_n 3 dX2_nextBehind_50 rfl rfl ?_
            have e : bX2_nextBehind_21 μ a0 j21 s21 = .inr (nI j21) := by unfold bX2_nextBehind_21; rw [if_neg h2]; rw [if_pos h3]; rw [if_neg h4]; try rfl
            exact rj_iret dX2_nextBehind_51 rfl (Nat.le_of_ble_eq_true rfl) (Nat.le_of_ble_eq_true rfl) (K2 (nI j21) (rj_ix_r e))
def fX2_nextBehind (μ : rj_M) (a0 : Int32) : Int32 := (Sum.elim (fun z21 => (-1)) (fun w21 => w21) (rj_ix (bX2_nextBehind_21 μ a0) 16 0 ()))
set_option maxHeartbeats 4000000 in
set_option maxRecDepth 100000 in
theorem sX2_nextBehind {g : rj_G} {ω : rj_W} (hω : rj_ok ω) (μ : rj_M) (a0 : Int32)   : rj_Sp g yX2_nextBehind wsX2_nextBehind (rj_rm 3 0) [.ref (ω.2.2 45), .int a0] ω μ (rj_D (.inl (some (.int (fX2_nextBehind μ a0)))) ω μ) := by
  refine rj_of' (cc := cX2_nextBehind) (nL := 4) (ret := (some .int)) (own := RX2) (l0 := [(0, .ref (ω.2.2 45)), (1, .int a0)]) rfl (by decide +kernel) rfl (Nat.le_of_ble_eq_true rfl) rfl ?_
  refine rj_aload_n 0 dX2_nextBehind_0 rfl rfl ?_
  refine rj_iload_n 1 dX2_nextBehind_1 rfl rfl ?_
  refine rj_cV (rest := []) (sX2_priceOf (g := g) (ω := ω) hω μ a0  ) gX2_nextBehind_X2_priceOf (rj_lt hω (k := 45) rfl) (rj_sh hω ly_45) rfl rfl hVX2_priceOf ⟨Nat.le_of_ble_eq_true rfl, Nat.le_of_ble_eq_true rfl⟩ dX2_nextBehind_2 rfl rfl rfl (Nat.le_of_ble_eq_true rfl) rfl (Nat.le_of_ble_eq_true rfl) rfl ?_
  refine rj_aload_n 0 dX2_nextBehind_5 rfl rfl ?_
  refine rj_getR (C0 := RX2) (T := TX2) (N := 4) (j := 1) (r := 8) dX2_nextBehind_6 rfl vX2_nextBehind_2 rfl (rj_lt hω (k := 45) rfl) (rj_sh hω ly_45) (by decide) kX2_nextBehind_23 rfl ?_
  refine rj_aload_n 0 dX2_nextBehind_9 rfl rfl ?_
  refine rj_getI (C0 := RX2) (T := TX2) (N := 4) (j := 3) dX2_nextBehind_10 rfl vX2_nextBehind_2 rfl (rj_lt hω (k := 45) rfl) (rj_sh hω ly_45) (by decide) kX2_nextBehind_15 rfl ?_
  refine rj_iload_n 1 dX2_nextBehind_13 rfl rfl ?_
  refine rj_cV (rest := [.int (fX2_priceOf μ a0)]) (sX7_wishOf (g := g) (ω := ω) hω μ (μ.1 45 3) a0  ) gX2_nextBehind_X7_wishOf (rj_lt hω (k := 8) rfl) (rj_sh hω ly_8) rfl rfl hVX7_wishOf ⟨Nat.le_of_ble_eq_true rfl, Nat.le_of_ble_eq_true rfl⟩ dX2_nextBehind_14 rfl rfl rfl (Nat.le_of_ble_eq_true rfl) rfl (Nat.le_of_ble_eq_true rfl) rfl ?_
  refine rj_isub dX2_nextBehind_17 rfl ?_
  refine rj_istore_n (l' := [(2, .int ((fX2_priceOf μ a0) - (fX7_wishOf μ (μ.1 45 3) a0))), (0, .ref (ω.2.2 45)), (1, .int a0)]) dX2_nextBehind_18 rfl (rj_bl rfl) rfl ?_
  refine rj_iconst (v := 0) dX2_nextBehind_19 rfl (by decide) ?_
  refine rj_istore_n (l' := [(3, .int 0), (2, .int ((fX2_priceOf μ a0) - (fX7_wishOf μ (μ.1 45 3) a0))), (0, .ref (ω.2.2 45)), (1, .int a0)]) dX2_nextBehind_20 rfl (rj_bl rfl) rfl ?_
  refine rj_sub (l' := [(0, .ref (ω.2.2 45)), (1, .int a0), (2, .int ((fX2_priceOf μ a0) - (fX7_wishOf μ (μ.1 45 3) a0))), (3, .int (nI 0))]) [2, 3, 1, 0] rfl ?_
  refine lX2_nextBehind_21 hω μ a0     16 0 () rfl (fun z21 hz21 => ?_) (fun w21 hw21 => ?_)
  · refine rj_iconst (v := (-1)) dX2_nextBehind_58 rfl (by decide) ?_
    exact rj_iret dX2_nextBehind_59 rfl (Nat.le_of_ble_eq_true rfl) (Nat.le_of_ble_eq_true rfl) ⟨(by unfold fX2_nextBehind; rw [hz21]; simp only [Sum.elim_inl]; try rfl), rfl, rfl⟩
  · exact ⟨(by unfold fX2_nextBehind; rw [hw21]; simp only [Sum.elim_inr]; try rfl), rfl, rfl⟩
theorem hSX2_weightOn : yX2_weightOn.cls ≠ "java/lang/invoke/MethodHandle" ∧ yX2_weightOn.cls ≠ "java/lang/invoke/VarHandle" ∧ (parseMethodDescriptor yX2_weightOn.desc).map (fun d => d.parameters.length) = some 1 := by decide +kernel
theorem hVX2_weightOn : yX2_weightOn.cls = RX2 ∧ yX2_weightOn.cls ≠ "java/lang/invoke/MethodHandle" ∧ yX2_weightOn.cls ≠ "java/lang/invoke/VarHandle" ∧ (parseMethodDescriptor yX2_weightOn.desc).map (fun d => d.parameters.length) = some 1 := by decide +kernel
theorem vX2_weightOn_2 : ∀ w ∈ u_ws RX2 TX2 4, w ∈ wsX2_weightOn := by decide +kernel
theorem kX2_weightOn_23 : Cond.fieldLink RX2 23 (TX2 1).1 (TX2 1).2.1 (TX2 1).2.2.1 ∈ wsX2_weightOn := by decide +kernel
theorem kX2_weightOn_15 : Cond.fieldLink RX2 15 (TX2 3).1 (TX2 3).2.1 (TX2 3).2.2.1 ∈ wsX2_weightOn := by decide +kernel
def bX2_weightOn_11 (μ : rj_M) (a0 : Int32) (j11 : Nat) (s11 : Int32 × Int32) : (Int32 × Int32) ⊕ (Nat × (Int32 × Int32)) := (if s11.2 = (-1) then .inr (j11, (s11.1, s11.2)) else .inl ((s11.1 + (fX7_wishOf μ (μ.1 45 3) s11.2)), (fX2_nextBehind μ s11.2)))
set_option maxHeartbeats 4000000 in
set_option maxRecDepth 100000 in
theorem lX2_weightOn_11 {g : rj_G} {ω : rj_W} (hω : rj_ok ω) (μ : rj_M) (a0 : Int32)     {F : rj_F} : ∀ (r j : Nat) (s : Int32 × Int32), j + r = 16 → (rj_R g RX2 cX2_weightOn 5 (some .int) wsX2_weightOn [] (rj_rm 4 0) F 0 ω μ [(0, .ref (ω.2.2 45)), (1, .int a0), (2, .int ((rj_br (bX2_weightOn_11 μ a0) r j s).2.1)), (3, .int ((rj_br (bX2_weightOn_11 μ a0) r j s).2.2)), (4, .int (nI (rj_br (bX2_weightOn_11 μ a0) r j s).1))] 50 []) → rj_R g RX2 cX2_weightOn 5 (some .int) wsX2_weightOn [] (rj_rm 4 0) F 0 ω μ [(0, .ref (ω.2.2 45)), (1, .int a0), (2, .int s.1), (3, .int s.2), (4, .int (nI j))] 11 [] := by
  intro r
  induction r with
  | zero =>
    intro j s hj K
    have e0 : j = 16 := by omega
    have hge : 16 ≤ nI j := by
      rw [e0]
      exact Int32.le_refl _
    refine rj_iload 4 dX2_weightOn_11 rfl rfl ?_
    refine rj_bipush (v := 16) dX2_weightOn_13 rfl (by decide) ?_
    refine rj_icmp_ge dX2_weightOn_15 rfl rfl (fun h3 => ?_) (fun h3 => ?_)
    · rw [rj_br_0] at K
      exact K
    · exact absurd hge h3
  | succ r ih =>
    intro j11 s11 hj K
    have hl11 : j11 < 16 := by omega
    have hg11 : ¬ 16 ≤ nI j11 := nI_ge hl11 (rj_bl rfl)
    refine rj_iload 4 dX2_weightOn_11 rfl rfl ?_
    refine rj_bipush (v := 16) dX2_weightOn_13 rfl (by decide) ?_
    refine rj_icmp_ge dX2_weightOn_15 rfl rfl (fun h1 => ?_) (fun h1 => ?_)
    · exact absurd h1 hg11
    · refine rj_iload_n 3 dX2_weightOn_18 rfl rfl ?_
      refine rj_iconst (v := (-1)) dX2_weightOn_19 rfl (by decide) ?_
      refine rj_icmp_eq dX2_weightOn_20 rfl rfl (fun h2 => ?_) (fun h2 => ?_)
      · have e : bX2_weightOn_11 μ a0 j11 s11 = .inr (j11, (s11.1, s11.2)) := by unfold bX2_weightOn_11; rw [if_pos h2]; try rfl
        exact rj_sub (l' := [(0, .ref (ω.2.2 45)), (1, .int a0), (2, .int s11.1), (3, .int s11.2), (4, .int (nI j11))]) [0, 1, 2, 3, 4] rfl (by rw [rj_br_r e] at K; exact K)
      · refine rj_iload_n 2 dX2_weightOn_23 rfl rfl ?_
        refine rj_aload_n 0 dX2_weightOn_24 rfl rfl ?_
        refine rj_getR (C0 := RX2) (T := TX2) (N := 4) (j := 1) (r := 8) dX2_weightOn_25 rfl vX2_weightOn_2 rfl (rj_lt hω (k := 45) rfl) (rj_sh hω ly_45) (by decide) kX2_weightOn_23 rfl ?_
        refine rj_aload_n 0 dX2_weightOn_28 rfl rfl ?_
        refine rj_getI (C0 := RX2) (T := TX2) (N := 4) (j := 3) dX2_weightOn_29 rfl vX2_weightOn_2 rfl (rj_lt hω (k := 45) rfl) (rj_sh hω ly_45) (by decide) kX2_weightOn_15 rfl ?_
        refine rj_iload_n 3 dX2_weightOn_32 rfl rfl ?_
        refine rj_cV (rest := [.int s11.1]) (sX7_wishOf (g := g) (ω := ω) hω μ (μ.1 45 3) s11.2  ) gX2_weightOn_X7_wishOf (rj_lt hω (k := 8) rfl) (rj_sh hω ly_8) rfl rfl hVX7_wishOf ⟨Nat.le_of_ble_eq_true rfl, Nat.le_of_ble_eq_true rfl⟩ dX2_weightOn_33 rfl rfl rfl (Nat.le_of_ble_eq_true rfl) rfl (Nat.le_of_ble_eq_true rfl) rfl ?_
        refine rj_iadd dX2_weightOn_36 rfl ?_
        refine rj_istore_n (l' := [(2, .int (s11.1 + (fX7_wishOf μ (μ.1 45 3) s11.2))), (0, .ref (ω.2.2 45)), (1, .int a0), (3, .int s11.2), (4, .int (nI j11))]) dX2_weightOn_37 rfl (rj_bl rfl) rfl ?_
        refine rj_aload_n 1 dX2_weightOn_38 rfl rfl ?_
        refine rj_iload_n 3 dX2_weightOn_39 rfl rfl ?_
        refine rj_cV (rest := []) (sX2_nextBehind (g := g) (ω := ω) hω μ s11.2  ) gX2_weightOn_X2_nextBehind (rj_lt hω (k := 45) rfl) (rj_sh hω ly_45) rfl rfl hVX2_nextBehind ⟨Nat.le_of_ble_eq_true rfl, Nat.le_of_ble_eq_true rfl⟩ dX2_weightOn_40 rfl rfl rfl (Nat.le_of_ble_eq_true rfl) rfl (Nat.le_of_ble_eq_true rfl) rfl ?_
        refine rj_istore_n (l' := [(3, .int (fX2_nextBehind μ s11.2)), (2, .int (s11.1 + (fX7_wishOf μ (μ.1 45 3) s11.2))), (0, .ref (ω.2.2 45)), (1, .int a0), (4, .int (nI j11))]) dX2_weightOn_43 rfl (rj_bl rfl) rfl ?_
        refine rj_iinc (v := nI (j11 + 1)) (l' := [(4, .int (nI (j11 + 1))), (3, .int (fX2_nextBehind μ s11.2)), (2, .int (s11.1 + (fX7_wishOf μ (μ.1 45 3) s11.2))), (0, .ref (ω.2.2 45)), (1, .int a0)]) 4 dX2_weightOn_44 rfl rfl (nI_succ j11).symm (rj_bl rfl) rfl ?_
        refine rj_goto dX2_weightOn_47 rfl ?_
        have e : bX2_weightOn_11 μ a0 j11 s11 = .inl ((s11.1 + (fX7_wishOf μ (μ.1 45 3) s11.2)), (fX2_nextBehind μ s11.2)) := by unfold bX2_weightOn_11; rw [if_neg h2]; try rfl
        exact rj_sub (l' := [(0, .ref (ω.2.2 45)), (1, .int a0), (2, .int (s11.1 + (fX7_wishOf μ (μ.1 45 3) s11.2))), (3, .int (fX2_nextBehind μ s11.2)), (4, .int (nI (j11 + 1)))]) [3, 4, 2, 1, 0] rfl (ih (j11 + 1) ((s11.1 + (fX7_wishOf μ (μ.1 45 3) s11.2)), (fX2_nextBehind μ s11.2)) (by omega) (by rw [rj_br_l e] at K; exact K))
set_option maxHeartbeats 4000000 in
theorem lX2_weightOn_11u {g : rj_G} {ω : rj_W} (hω : rj_ok ω) (μ : rj_M) (a0 : Int32)     {F : rj_F} : ∀ (r j : Nat) (c0 : Int32) (c1 : Int32), j + r = 16 → (rj_R g RX2 cX2_weightOn 5 (some .int) wsX2_weightOn [] (rj_rm 4 0) F 0 ω μ [(0, .ref (ω.2.2 45)), (1, .int a0), (2, .int ((rj_br (bX2_weightOn_11 μ a0) r j (c0, c1)).2.1)), (3, .int ((rj_br (bX2_weightOn_11 μ a0) r j (c0, c1)).2.2)), (4, .int (nI (rj_br (bX2_weightOn_11 μ a0) r j (c0, c1)).1))] 50 []) → rj_R g RX2 cX2_weightOn 5 (some .int) wsX2_weightOn [] (rj_rm 4 0) F 0 ω μ [(0, .ref (ω.2.2 45)), (1, .int a0), (2, .int c0), (3, .int c1), (4, .int (nI j))] 11 [] := fun r j c0 c1 => lX2_weightOn_11 hω μ a0     r j (c0, c1)
def fX2_weightOn (μ : rj_M) (a0 : Int32) : Int32 := (rj_br (bX2_weightOn_11 μ a0) 16 0 (0, (fX2_firstOn μ a0))).2.1
set_option maxHeartbeats 4000000 in
set_option maxRecDepth 100000 in
theorem sX2_weightOn {g : rj_G} {ω : rj_W} (hω : rj_ok ω) (μ : rj_M) (a0 : Int32)   : rj_Sp g yX2_weightOn wsX2_weightOn (rj_rm 4 0) [.ref (ω.2.2 45), .int a0] ω μ (rj_D (.inl (some (.int (fX2_weightOn μ a0)))) ω μ) := by
  refine rj_of' (cc := cX2_weightOn) (nL := 5) (ret := (some .int)) (own := RX2) (l0 := [(0, .ref (ω.2.2 45)), (1, .int a0)]) rfl (by decide +kernel) rfl (Nat.le_of_ble_eq_true rfl) rfl ?_
  refine rj_iconst (v := 0) dX2_weightOn_0 rfl (by decide) ?_
  refine rj_istore_n (l' := [(2, .int 0), (0, .ref (ω.2.2 45)), (1, .int a0)]) dX2_weightOn_1 rfl (rj_bl rfl) rfl ?_
  refine rj_aload_n 1 dX2_weightOn_2 rfl rfl ?_
  refine rj_iload_n 2 dX2_weightOn_3 rfl rfl ?_
  refine rj_cV (rest := []) (sX2_firstOn (g := g) (ω := ω) hω μ a0  ) gX2_weightOn_X2_firstOn (rj_lt hω (k := 45) rfl) (rj_sh hω ly_45) rfl rfl hVX2_firstOn ⟨Nat.le_of_ble_eq_true rfl, Nat.le_of_ble_eq_true rfl⟩ dX2_weightOn_4 rfl rfl rfl (Nat.le_of_ble_eq_true rfl) rfl (Nat.le_of_ble_eq_true rfl) rfl ?_
  refine rj_istore_n (l' := [(3, .int (fX2_firstOn μ a0)), (2, .int 0), (0, .ref (ω.2.2 45)), (1, .int a0)]) dX2_weightOn_7 rfl (rj_bl rfl) rfl ?_
  refine rj_iconst (v := 0) dX2_weightOn_8 rfl (by decide) ?_
  refine rj_istore (l' := [(4, .int 0), (3, .int (fX2_firstOn μ a0)), (2, .int 0), (0, .ref (ω.2.2 45)), (1, .int a0)]) dX2_weightOn_9 rfl (rj_bl rfl) rfl ?_
  refine rj_sub (l' := [(0, .ref (ω.2.2 45)), (1, .int a0), (2, .int 0), (3, .int (fX2_firstOn μ a0)), (4, .int (nI 0))]) [3, 4, 2, 1, 0] rfl ?_
  refine lX2_weightOn_11u hω μ a0     16 0 0 (fX2_firstOn μ a0) rfl ?_
  refine rj_iload_n 2 dX2_weightOn_50 rfl rfl ?_
  exact rj_iret dX2_weightOn_51 rfl (Nat.le_of_ble_eq_true rfl) (Nat.le_of_ble_eq_true rfl) ⟨(by unfold fX2_weightOn; rfl), rfl, rfl⟩
theorem hSX2_actOn : yX2_actOn.cls ≠ "java/lang/invoke/MethodHandle" ∧ yX2_actOn.cls ≠ "java/lang/invoke/VarHandle" ∧ (parseMethodDescriptor yX2_actOn.desc).map (fun d => d.parameters.length) = some 2 := by decide +kernel
theorem hVX2_actOn : yX2_actOn.cls = RX2 ∧ yX2_actOn.cls ≠ "java/lang/invoke/MethodHandle" ∧ yX2_actOn.cls ≠ "java/lang/invoke/VarHandle" ∧ (parseMethodDescriptor yX2_actOn.desc).map (fun d => d.parameters.length) = some 2 := by decide +kernel
def bX2_actOn_21 (μ : rj_M) (a0 : Int32) (a1 : Int32) (j21 : Nat) (s21 : Int32) : Int32 ⊕ (Nat × Int32) := (if s21 = (-1) then .inr (j21, s21) else .inl (fX2_nextBehind μ s21))
set_option maxHeartbeats 4000000 in
set_option maxRecDepth 100000 in
theorem lX2_actOn_21 {g : rj_G} {ω : rj_W} (hω : rj_ok ω) (μ : rj_M) (a0 : Int32) (a1 : Int32)     {F : rj_F} : ∀ (r j : Nat) (s : Int32), r = a1.toInt.toNat - j → j < 2 ^ 31 → (rj_R g RX2 cX2_actOn 5 (some .int) wsX2_actOn [] (rj_rm 4 0) F 0 ω μ [(0, .ref (ω.2.2 45)), (1, .int a0), (2, .int a1), (3, .int ((rj_br (bX2_actOn_21 μ a0 a1) r j s).2)), (4, .int (nI (rj_br (bX2_actOn_21 μ a0 a1) r j s).1))] 44 []) → rj_R g RX2 cX2_actOn 5 (some .int) wsX2_actOn [] (rj_rm 4 0) F 0 ω μ [(0, .ref (ω.2.2 45)), (1, .int a0), (2, .int a1), (3, .int s), (4, .int (nI j))] 21 [] := by
  intro r
  induction r with
  | zero =>
    intro j s hj hJ K
    have e0 : a1.toInt.toNat ≤ j := by omega
    have hge : a1 ≤ nI j := (rj_leN hJ).mpr e0
    refine rj_iload 4 dX2_actOn_21 rfl rfl ?_
    refine rj_iload_n 2 dX2_actOn_23 rfl rfl ?_
    refine rj_icmp_ge dX2_actOn_24 rfl rfl (fun h5 => ?_) (fun h5 => ?_)
    · rw [rj_br_0] at K
      exact K
    · exact absurd hge h5
  | succ r ih =>
    intro j21 s21 hj hJ K
    have hl21 : j21 < a1.toInt.toNat := by omega
    have hg21 : ¬ a1 ≤ nI j21 := fun z => absurd ((rj_leN hJ).mp z) (by omega)
    have hN := rj_tN a1
    refine rj_iload 4 dX2_actOn_21 rfl rfl ?_
    refine rj_iload_n 2 dX2_actOn_23 rfl rfl ?_
    refine rj_icmp_ge dX2_actOn_24 rfl rfl (fun h3 => ?_) (fun h3 => ?_)
    · exact absurd h3 hg21
    · refine rj_iload_n 3 dX2_actOn_27 rfl rfl ?_
      refine rj_iconst (v := (-1)) dX2_actOn_28 rfl (by decide) ?_
      refine rj_icmp_eq dX2_actOn_29 rfl rfl (fun h4 => ?_) (fun h4 => ?_)
      · have e : bX2_actOn_21 μ a0 a1 j21 s21 = .inr (j21, s21) := by unfold bX2_actOn_21; rw [if_pos h4]; try rfl
        exact rj_sub (l' := [(0, .ref (ω.2.2 45)), (1, .int a0), (2, .int a1), (3, .int s21), (4, .int (nI j21))]) [0, 1, 2, 3, 4] rfl (by rw [rj_br_r e] at K; exact K)
      · refine rj_aload_n 0 dX2_actOn_32 rfl rfl ?_
        refine rj_iload_n 3 dX2_actOn_33 rfl rfl ?_
        refine rj_cV (rest := []) (sX2_nextBehind (g := g) (ω := ω) hω μ s21  ) gX2_actOn_X2_nextBehind (rj_lt hω (k := 45) rfl) (rj_sh hω ly_45) rfl rfl hVX2_nextBehind ⟨Nat.le_of_ble_eq_true rfl, Nat.le_of_ble_eq_true rfl⟩ dX2_actOn_34 rfl rfl rfl (Nat.le_of_ble_eq_true rfl) rfl (Nat.le_of_ble_eq_true rfl) rfl ?_
        refine rj_istore_n (l' := [(3, .int (fX2_nextBehind μ s21)), (0, .ref (ω.2.2 45)), (1, .int a0), (2, .int a1), (4, .int (nI j21))]) dX2_actOn_37 rfl (rj_bl rfl) rfl ?_
        refine rj_iinc (v := nI (j21 + 1)) (l' := [(4, .int (nI (j21 + 1))), (3, .int (fX2_nextBehind μ s21)), (0, .ref (ω.2.2 45)), (1, .int a0), (2, .int a1)]) 4 dX2_actOn_38 rfl rfl (nI_succ j21).symm (rj_bl rfl) rfl ?_
        refine rj_goto dX2_actOn_41 rfl ?_
        have e : bX2_actOn_21 μ a0 a1 j21 s21 = .inl (fX2_nextBehind μ s21) := by unfold bX2_actOn_21; rw [if_neg h4]; try rfl
        exact rj_sub (l' := [(0, .ref (ω.2.2 45)), (1, .int a0), (2, .int a1), (3, .int (fX2_nextBehind μ s21)), (4, .int (nI (j21 + 1)))]) [2, 3, 4, 1, 0] rfl (ih (j21 + 1) (fX2_nextBehind μ s21) (by omega) (by omega) (by rw [rj_br_l e] at K; exact K))
def fX2_actOn (μ : rj_M) (a0 : Int32) (a1 : Int32) : Int32 := (if a1 < 0 then (-1) else (if a1 < 16 then (rj_br (bX2_actOn_21 μ a0 a1) (a1.toInt.toNat - 0) 0 (fX2_firstOn μ a0)).2 else (-1)))
set_option maxHeartbeats 4000000 in
set_option maxRecDepth 100000 in
theorem sX2_actOn {g : rj_G} {ω : rj_W} (hω : rj_ok ω) (μ : rj_M) (a0 : Int32) (a1 : Int32)   : rj_Sp g yX2_actOn wsX2_actOn (rj_rm 4 0) [.ref (ω.2.2 45), .int a0, .int a1] ω μ (rj_D (.inl (some (.int (fX2_actOn μ a0 a1)))) ω μ) := by
  refine rj_of' (cc := cX2_actOn) (nL := 5) (ret := (some .int)) (own := RX2) (l0 := [(0, .ref (ω.2.2 45)), (1, .int a0), (2, .int a1)]) rfl (by decide +kernel) rfl (Nat.le_of_ble_eq_true rfl) rfl ?_
  refine rj_iload_n 2 dX2_actOn_0 rfl rfl ?_
  refine rj_if_lt dX2_actOn_1 rfl rfl (fun h1 => ?_) (fun h1 => ?_)
  · refine rj_iconst (v := (-1)) dX2_actOn_10 rfl (by decide) ?_
    exact rj_iret dX2_actOn_11 rfl (Nat.le_of_ble_eq_true rfl) (Nat.le_of_ble_eq_true rfl) ⟨(by unfold fX2_actOn; rw [if_pos h1]; try rfl), rfl, rfl⟩
  · refine rj_iload_n 2 dX2_actOn_4 rfl rfl ?_
    refine rj_bipush (v := 16) dX2_actOn_5 rfl (by decide) ?_
    refine rj_icmp_lt dX2_actOn_7 rfl rfl (fun h2 => ?_) (fun h2 => ?_)
    · refine rj_aload_n 0 dX2_actOn_12 rfl rfl ?_
      refine rj_iload_n 1 dX2_actOn_13 rfl rfl ?_
      refine rj_cV (rest := []) (sX2_firstOn (g := g) (ω := ω) hω μ a0  ) gX2_actOn_X2_firstOn (rj_lt hω (k := 45) rfl) (rj_sh hω ly_45) rfl rfl hVX2_firstOn ⟨Nat.le_of_ble_eq_true rfl, Nat.le_of_ble_eq_true rfl⟩ dX2_actOn_14 rfl rfl rfl (Nat.le_of_ble_eq_true rfl) rfl (Nat.le_of_ble_eq_true rfl) rfl ?_
      refine rj_istore_n (l' := [(3, .int (fX2_firstOn μ a0)), (0, .ref (ω.2.2 45)), (1, .int a0), (2, .int a1)]) dX2_actOn_17 rfl (rj_bl rfl) rfl ?_
      refine rj_iconst (v := 0) dX2_actOn_18 rfl (by decide) ?_
      refine rj_istore (l' := [(4, .int 0), (3, .int (fX2_firstOn μ a0)), (0, .ref (ω.2.2 45)), (1, .int a0), (2, .int a1)]) dX2_actOn_19 rfl (rj_bl rfl) rfl ?_
      refine rj_sub (l' := [(0, .ref (ω.2.2 45)), (1, .int a0), (2, .int a1), (3, .int (fX2_firstOn μ a0)), (4, .int (nI 0))]) [2, 3, 4, 1, 0] rfl ?_
      refine lX2_actOn_21 hω μ a0 a1     (a1.toInt.toNat - 0) 0 (fX2_firstOn μ a0) rfl (rj_bl rfl) ?_
      refine rj_iload_n 3 dX2_actOn_44 rfl rfl ?_
      exact rj_iret dX2_actOn_45 rfl (Nat.le_of_ble_eq_true rfl) (Nat.le_of_ble_eq_true rfl) ⟨(by unfold fX2_actOn; rw [if_neg h1]; rw [if_pos h2]; try rfl), rfl, rfl⟩
    · refine rj_iconst (v := (-1)) dX2_actOn_10 rfl (by decide) ?_
      exact rj_iret dX2_actOn_11 rfl (Nat.le_of_ble_eq_true rfl) (Nat.le_of_ble_eq_true rfl) ⟨(by unfold fX2_actOn; rw [if_neg h1]; rw [if_neg h2]; try rfl), rfl, rfl⟩
theorem hSX2_isAt : yX2_isAt.cls ≠ "java/lang/invoke/MethodHandle" ∧ yX2_isAt.cls ≠ "java/lang/invoke/VarHandle" ∧ (parseMethodDescriptor yX2_isAt.desc).map (fun d => d.parameters.length) = some 2 := by decide +kernel
theorem hVX2_isAt : yX2_isAt.cls = RX2 ∧ yX2_isAt.cls ≠ "java/lang/invoke/MethodHandle" ∧ yX2_isAt.cls ≠ "java/lang/invoke/VarHandle" ∧ (parseMethodDescriptor yX2_isAt.desc).map (fun d => d.parameters.length) = some 2 := by decide +kernel
theorem vX2_isAt_2 : ∀ w ∈ u_ws RX2 TX2 4, w ∈ wsX2_isAt := by decide +kernel
theorem kX2_isAt_23 : Cond.fieldLink RX2 23 (TX2 1).1 (TX2 1).2.1 (TX2 1).2.2.1 ∈ wsX2_isAt := by decide +kernel
def bX2_isAt_17 (μ : rj_M) (a0 : Int32) (a1 : Int32) (j2 : Nat) (s2 : Unit) (j17 : Nat) (s17 : Int32) : (Int32 ⊕ Int32) ⊕ Unit := (if s17 = (-1) then .inl (.inr s17) else (if (fX7_stageOf μ s17) = a0 then (if (fX7_isOnIn μ s17 a1 (a1 + 1)) = 0 then .inl (.inl (fX2_nextBehind μ s17)) else .inr ()) else .inl (.inl (fX2_nextBehind μ s17))))
set_option maxHeartbeats 4000000 in
set_option maxRecDepth 100000 in
theorem lX2_isAt_17 {g : rj_G} {ω : rj_W} (hω : rj_ok ω) (μ : rj_M) (a0 : Int32) (a1 : Int32) (j2 : Nat) (s2 : Unit)   (hl2 : j2 < 4)  {P : rj_P} : ∀ (r j : Nat) (s : Int32), j + r = 16 → (∀ z : Int32, rj_mx (bX2_isAt_17 μ a0 a1 j2 s2) r j s = .inl z → rj_R g RX2 cX2_isAt 6 (some .boolean) wsX2_isAt [] (rj_rm 4 0) (rj_E g (rj_rm 4 0) P) 0 ω μ [(0, .ref (ω.2.2 45)), (1, .int a0), (2, .int a1), (3, .int (nI j2)), (4, .int z)] 75 []) → (∀ z : Unit, rj_mx (bX2_isAt_17 μ a0 a1 j2 s2) r j s = .inr z → P (.inl (some (.int 1))) ω μ) → rj_R g RX2 cX2_isAt 6 (some .boolean) wsX2_isAt [] (rj_rm 4 0) (rj_E g (rj_rm 4 0) P) 0 ω μ [(0, .ref (ω.2.2 45)), (1, .int a0), (2, .int a1), (3, .int (nI j2)), (4, .int s), (5, .int (nI j))] 17 [] := by
  intro r
  induction r with
  | zero =>
    intro j s hj K K2
    have e0 : j = 16 := by omega
    have hge : 16 ≤ nI j := by
      rw [e0]
      exact Int32.le_refl _
    refine rj_iload 5 dX2_isAt_17 rfl rfl ?_
    refine rj_bipush (v := 16) dX2_isAt_19 rfl (by decide) ?_
    refine rj_icmp_ge dX2_isAt_21 rfl rfl (fun h6 => ?_) (fun h6 => ?_)
    · refine rj_sub (l' := [(0, .ref (ω.2.2 45)), (1, .int a0), (2, .int a1), (3, .int (nI j2)), (4, .int s)]) [0, 1, 2, 3, 4] rfl ?_
      exact K s rfl
    · exact absurd hge h6
  | succ r ih =>
    intro j17 s17 hj K K2
    have hl17 : j17 < 16 := by omega
    have hg17 : ¬ 16 ≤ nI j17 := nI_ge hl17 (rj_bl rfl)
    refine rj_iload 5 dX2_isAt_17 rfl rfl ?_
    refine rj_bipush (v := 16) dX2_isAt_19 rfl (by decide) ?_
    refine rj_icmp_ge dX2_isAt_21 rfl rfl (fun h2 => ?_) (fun h2 => ?_)
    · exact absurd h2 hg17
    · refine rj_iload 4 dX2_isAt_24 rfl rfl ?_
      refine rj_iconst (v := (-1)) dX2_isAt_26 rfl (by decide) ?_
      refine rj_icmp_eq dX2_isAt_27 rfl rfl (fun h3 => ?_) (fun h3 => ?_)
      · have e : bX2_isAt_17 μ a0 a1 j2 s2 j17 s17 = .inl (.inr s17) := by unfold bX2_isAt_17; rw [if_pos h3]; try rfl
        exact rj_sub (l' := [(0, .ref (ω.2.2 45)), (1, .int a0), (2, .int a1), (3, .int (nI j2)), (4, .int s17)]) [0, 1, 2, 3, 4] rfl (K s17 (rj_mx_b e))
      · refine rj_aload_n 0 dX2_isAt_30 rfl rfl ?_
        refine rj_getR (C0 := RX2) (T := TX2) (N := 4) (j := 1) (r := 8) dX2_isAt_31 rfl vX2_isAt_2 rfl (rj_lt hω (k := 45) rfl) (rj_sh hω ly_45) (by decide) kX2_isAt_23 rfl ?_
        refine rj_iload 4 dX2_isAt_34 rfl rfl ?_
        refine rj_cV (rest := []) (sX7_stageOf (g := g) (ω := ω) hω μ s17  ) gX2_isAt_X7_stageOf (rj_lt hω (k := 8) rfl) (rj_sh hω ly_8) rfl rfl hVX7_stageOf ⟨Nat.le_of_ble_eq_true rfl, Nat.le_of_ble_eq_true rfl⟩ dX2_isAt_36 rfl rfl rfl (Nat.le_of_ble_eq_true rfl) rfl (Nat.le_of_ble_eq_true rfl) rfl ?_
        refine rj_iload_n 1 dX2_isAt_39 rfl rfl ?_
        refine rj_icmp_ne dX2_isAt_40 rfl rfl (fun h4 => ?_) (fun h4 => ?_)
        · refine rj_aload_n 0 dX2_isAt_61 rfl rfl ?_
          refine rj_iload 4 dX2_isAt_62 rfl rfl ?_
          refine rj_cV (rest := []) (sX2_nextBehind (g := g) (ω := ω) hω μ s17  ) gX2_isAt_X2_nextBehind (rj_lt hω (k := 45) rfl) (rj_sh hω ly_45) rfl rfl hVX2_nextBehind ⟨Nat.le_of_ble_eq_true rfl, Nat.le_of_ble_eq_true rfl⟩ dX2_isAt_64 rfl rfl rfl (Nat.le_of_ble_eq_true rfl) rfl (Nat.le_of_ble_eq_true rfl) rfl ?_
          refine rj_istore (l' := [(4, .int (fX2_nextBehind μ s17)), (0, .ref (ω.2.2 45)), (1, .int a0), (2, .int a1), (3, .int (nI j2)), (5, .int (nI j17))]) dX2_isAt_67 rfl (rj_bl rfl) rfl ?_
          refine rj_iinc (v := nI (j17 + 1)) (l' := [(5, .int (nI (j17 + 1))), (4, .int (fX2_nextBehind μ s17)), (0, .ref (ω.2.2 45)), (1, .int a0), (2, .int a1), (3, .int (nI j2))]) 5 dX2_isAt_69 rfl rfl (nI_succ j17).symm (rj_bl rfl) rfl ?_
          refine rj_goto dX2_isAt_72 rfl ?_
          have e : bX2_isAt_17 μ a0 a1 j2 s2 j17 s17 = .inl (.inl (fX2_nextBehind μ s17)) := by unfold bX2_isAt_17; rw [if_neg h3]; rw [if_neg h4]; try rfl
          exact rj_sub (l' := [(0, .ref (ω.2.2 45)), (1, .int a0), (2, .int a1), (3, .int (nI j2)), (4, .int (fX2_nextBehind μ s17)), (5, .int (nI (j17 + 1)))]) [2, 3, 4, 5, 1, 0] rfl (ih (j17 + 1) (fX2_nextBehind μ s17) (by omega) (fun z hz => K z (by rw [rj_mx_l e]; exact hz)) (fun z hz => K2 z (by rw [rj_mx_l e]; exact hz)))
        · refine rj_aload_n 0 dX2_isAt_43 rfl rfl ?_
          refine rj_getR (C0 := RX2) (T := TX2) (N := 4) (j := 1) (r := 8) dX2_isAt_44 rfl vX2_isAt_2 rfl (rj_lt hω (k := 45) rfl) (rj_sh hω ly_45) (by decide) kX2_isAt_23 rfl ?_
          refine rj_iload 4 dX2_isAt_47 rfl rfl ?_
          refine rj_iload_n 2 dX2_isAt_49 rfl rfl ?_
          refine rj_iload_n 2 dX2_isAt_50 rfl rfl ?_
          refine rj_iconst (v := 1) dX2_isAt_51 rfl (by decide) ?_
          refine rj_iadd dX2_isAt_52 rfl ?_
          refine rj_cV (rest := []) (sX7_isOnIn (g := g) (ω := ω) hω μ s17 a1 (a1 + 1)  ) gX2_isAt_X7_isOnIn (rj_lt hω (k := 8) rfl) (rj_sh hω ly_8) rfl rfl hVX7_isOnIn ⟨Nat.le_of_ble_eq_true rfl, Nat.le_of_ble_eq_true rfl⟩ dX2_isAt_53 rfl rfl rfl (Nat.le_of_ble_eq_true rfl) rfl (Nat.le_of_ble_eq_true rfl) rfl ?_
          refine rj_if_eq dX2_isAt_56 rfl rfl (fun h5 => ?_) (fun h5 => ?_)
          · refine rj_aload_n 0 dX2_isAt_61 rfl rfl ?_
            refine rj_iload 4 dX2_isAt_62 rfl rfl ?_
            refine rj_cV (rest := []) (sX2_nextBehind (g := g) (ω := ω) hω μ s17  ) gX2_isAt_X2_nextBehind (rj_lt hω (k := 45) rfl) (rj_sh hω ly_45) rfl rfl hVX2_nextBehind ⟨Nat.le_of_ble_eq_true rfl, Nat.le_of_ble_eq_true rfl⟩ dX2_isAt_64 rfl rfl rfl (Nat.le_of_ble_eq_true rfl) rfl (Nat.le_of_ble_eq_true rfl) rfl ?_
            refine rj_istore (l' := [(4, .int (fX2_nextBehind μ s17)), (0, .ref (ω.2.2 45)), (1, .int a0), (2, .int a1), (3, .int (nI j2)), (5, .int (nI j17))]) dX2_isAt_67 rfl (rj_bl rfl) rfl ?_
            refine rj_iinc (v := nI (j17 + 1)) (l' := [(5, .int (nI (j17 + 1))), (4, .int (fX2_nextBehind μ s17)), (0, .ref (ω.2.2 45)), (1, .int a0), (2, .int a1), (3, .int (nI j2))]) 5 dX2_isAt_69 rfl rfl (nI_succ j17).symm (rj_bl rfl) rfl ?_
            refine rj_goto dX2_isAt_72 rfl ?_
            have e : bX2_isAt_17 μ a0 a1 j2 s2 j17 s17 = .inl (.inl (fX2_nextBehind μ s17)) := by unfold bX2_isAt_17; rw [if_neg h3]; rw [if_pos h4]; rw [if_pos h5]; try rfl
            exact rj_sub (l' := [(0, .ref (ω.2.2 45)), (1, .int a0), (2, .int a1), (3, .int (nI j2)), (4, .int (fX2_nextBehind μ s17)), (5, .int (nI (j17 + 1)))]) [2, 3, 4, 5, 1, 0] rfl (ih (j17 + 1) (fX2_nextBehind μ s17) (by omega) (fun z hz => K z (by rw [rj_mx_l e]; exact hz)) (fun z hz => K2 z (by rw [rj_mx_l e]; exact hz)))
          · refine rj_iconst (v := 1) dX2_isAt_59 rfl (by decide) ?_
            have e : bX2_isAt_17 μ a0 a1 j2 s2 j17 s17 = .inr () := by unfold bX2_isAt_17; rw [if_neg h3]; rw [if_pos h4]; rw [if_neg h5]; try rfl
            exact rj_zret dX2_isAt_60 rfl rfl (Nat.le_of_ble_eq_true rfl) (Nat.le_of_ble_eq_true rfl) (K2 () (rj_mx_r e))
def bX2_isAt_2 (μ : rj_M) (a0 : Int32) (a1 : Int32) (j2 : Nat) (s2 : Unit) : Unit ⊕ Unit := (Sum.elim (fun z17 => .inl ()) (fun w17 => .inr ()) (rj_mx (bX2_isAt_17 μ a0 a1 j2 s2) 16 0 (fX2_firstOn μ (nI j2))))
set_option maxHeartbeats 4000000 in
set_option maxRecDepth 100000 in
theorem lX2_isAt_2 {g : rj_G} {ω : rj_W} (hω : rj_ok ω) (μ : rj_M) (a0 : Int32) (a1 : Int32)     {P : rj_P} : ∀ (r j : Nat) (s : Unit), j + r = 4 → (∀ z : Unit, rj_ix (bX2_isAt_2 μ a0 a1) r j s = .inl z → rj_R g RX2 cX2_isAt 6 (some .boolean) wsX2_isAt [] (rj_rm 4 0) (rj_E g (rj_rm 4 0) P) 0 ω μ [(0, .ref (ω.2.2 45)), (1, .int a0), (2, .int a1), (3, .int (nI 4))] 81 []) → (∀ z : Unit, rj_ix (bX2_isAt_2 μ a0 a1) r j s = .inr z → P (.inl (some (.int 1))) ω μ) → rj_R g RX2 cX2_isAt 6 (some .boolean) wsX2_isAt [] (rj_rm 4 0) (rj_E g (rj_rm 4 0) P) 0 ω μ [(0, .ref (ω.2.2 45)), (1, .int a0), (2, .int a1), (3, .int (nI j))] 2 [] := by
  intro r
  induction r with
  | zero =>
    intro j s hj K K2
    have e0 : j = 4 := by omega
    have hge : 4 ≤ nI j := by
      rw [e0]
      exact Int32.le_refl _
    refine rj_iload_n 3 dX2_isAt_2 rfl rfl ?_
    refine rj_iconst (v := 4) dX2_isAt_3 rfl (by decide) ?_
    refine rj_icmp_ge dX2_isAt_4 rfl rfl (fun h7 => ?_) (fun h7 => ?_)
    · have e1 : nI j = nI 4 := by rw [e0]
      rw [e1]
      exact K s rfl
    · exact absurd hge h7
  | succ r ih =>
    intro j2 s2 hj K K2
    have hl2 : j2 < 4 := by omega
    have hg2 : ¬ 4 ≤ nI j2 := nI_ge hl2 (rj_bl rfl)
    refine rj_iload_n 3 dX2_isAt_2 rfl rfl ?_
    refine rj_iconst (v := 4) dX2_isAt_3 rfl (by decide) ?_
    refine rj_icmp_ge dX2_isAt_4 rfl rfl (fun h1 => ?_) (fun h1 => ?_)
    · exact absurd h1 hg2
    · refine rj_aload_n 0 dX2_isAt_7 rfl rfl ?_
      refine rj_iload_n 3 dX2_isAt_8 rfl rfl ?_
      refine rj_cV (rest := []) (sX2_firstOn (g := g) (ω := ω) hω μ (nI j2)  ) gX2_isAt_X2_firstOn (rj_lt hω (k := 45) rfl) (rj_sh hω ly_45) rfl rfl hVX2_firstOn ⟨Nat.le_of_ble_eq_true rfl, Nat.le_of_ble_eq_true rfl⟩ dX2_isAt_9 rfl rfl rfl (Nat.le_of_ble_eq_true rfl) rfl (Nat.le_of_ble_eq_true rfl) rfl ?_
      refine rj_istore (l' := [(4, .int (fX2_firstOn μ (nI j2))), (0, .ref (ω.2.2 45)), (1, .int a0), (2, .int a1), (3, .int (nI j2))]) dX2_isAt_12 rfl (rj_bl rfl) rfl ?_
      refine rj_iconst (v := 0) dX2_isAt_14 rfl (by decide) ?_
      refine rj_istore (l' := [(5, .int 0), (4, .int (fX2_firstOn μ (nI j2))), (0, .ref (ω.2.2 45)), (1, .int a0), (2, .int a1), (3, .int (nI j2))]) dX2_isAt_15 rfl (rj_bl rfl) rfl ?_
      refine rj_sub (l' := [(0, .ref (ω.2.2 45)), (1, .int a0), (2, .int a1), (3, .int (nI j2)), (4, .int (fX2_firstOn μ (nI j2))), (5, .int (nI 0))]) [2, 3, 4, 5, 1, 0] rfl ?_
      refine lX2_isAt_17 hω μ a0 a1 j2 s2   hl2  16 0 (fX2_firstOn μ (nI j2)) rfl (fun z17 hz17 => ?_) (fun w17 hw17 => ?_)
      · refine rj_iinc (v := nI (j2 + 1)) (l' := [(3, .int (nI (j2 + 1))), (0, .ref (ω.2.2 45)), (1, .int a0), (2, .int a1), (4, .int z17)]) 3 dX2_isAt_75 rfl rfl (nI_succ j2).symm (rj_bl rfl) rfl ?_
        refine rj_goto dX2_isAt_78 rfl ?_
        have e : bX2_isAt_2 μ a0 a1 j2 s2 = .inl () := by unfold bX2_isAt_2; rw [hz17]; simp only [Sum.elim_inl]; try rfl
        exact rj_sub (l' := [(0, .ref (ω.2.2 45)), (1, .int a0), (2, .int a1), (3, .int (nI (j2 + 1)))]) [1, 2, 3, 0] rfl (ih (j2 + 1) () (by omega) (fun z hz => K z (by rw [rj_ix_l e]; exact hz)) (fun z hz => K2 z (by rw [rj_ix_l e]; exact hz)))
      · have e : bX2_isAt_2 μ a0 a1 j2 s2 = .inr () := by unfold bX2_isAt_2; rw [hw17]; simp only [Sum.elim_inr]; try rfl
        exact K2 () (rj_ix_r e)
def fX2_isAt (μ : rj_M) (a0 : Int32) (a1 : Int32) : Int32 := (Sum.elim (fun z2 => 0) (fun w2 => 1) (rj_ix (bX2_isAt_2 μ a0 a1) 4 0 ()))
set_option maxHeartbeats 4000000 in
set_option maxRecDepth 100000 in
theorem sX2_isAt {g : rj_G} {ω : rj_W} (hω : rj_ok ω) (μ : rj_M) (a0 : Int32) (a1 : Int32)   : rj_Sp g yX2_isAt wsX2_isAt (rj_rm 4 0) [.ref (ω.2.2 45), .int a0, .int a1] ω μ (rj_D (.inl (some (.int (fX2_isAt μ a0 a1)))) ω μ) := by
  refine rj_of' (cc := cX2_isAt) (nL := 6) (ret := (some .boolean)) (own := RX2) (l0 := [(0, .ref (ω.2.2 45)), (1, .int a0), (2, .int a1)]) rfl (by decide +kernel) rfl (Nat.le_of_ble_eq_true rfl) rfl ?_
  refine rj_iconst (v := 0) dX2_isAt_0 rfl (by decide) ?_
  refine rj_istore_n (l' := [(3, .int 0), (0, .ref (ω.2.2 45)), (1, .int a0), (2, .int a1)]) dX2_isAt_1 rfl (rj_bl rfl) rfl ?_
  refine rj_sub (l' := [(0, .ref (ω.2.2 45)), (1, .int a0), (2, .int a1), (3, .int (nI 0))]) [1, 2, 3, 0] rfl ?_
  refine lX2_isAt_2 hω μ a0 a1     4 0 () rfl (fun z2 hz2 => ?_) (fun w2 hw2 => ?_)
  · refine rj_iconst (v := 0) dX2_isAt_81 rfl (by decide) ?_
    exact rj_zret dX2_isAt_82 rfl rfl (Nat.le_of_ble_eq_true rfl) (Nat.le_of_ble_eq_true rfl) ⟨(by unfold fX2_isAt; rw [hz2]; simp only [Sum.elim_inl]; try rfl), rfl, rfl⟩
  · exact ⟨(by unfold fX2_isAt; rw [hw2]; simp only [Sum.elim_inr]; try rfl), rfl, rfl⟩
theorem nX2_isAt (μ : rj_M) (a0 : Int32) (a1 : Int32) : narrow .boolean (.int (fX2_isAt μ a0 a1)) = .int (fX2_isAt μ a0 a1) := by
  unfold fX2_isAt
  (generalize rj_ix (bX2_isAt_2 μ a0 a1) 4 0 () = x; cases x <;> simp only [Sum.elim_inl, Sum.elim_inr] <;> rfl)
