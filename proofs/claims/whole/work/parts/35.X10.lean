theorem hSX10_sumOfStarts : yX10_sumOfStarts.cls ≠ "java/lang/invoke/MethodHandle" ∧ yX10_sumOfStarts.cls ≠ "java/lang/invoke/VarHandle" ∧ (parseMethodDescriptor yX10_sumOfStarts.desc).map (fun d => d.parameters.length) = some 0 := by decide +kernel
theorem hVX10_sumOfStarts : yX10_sumOfStarts.cls = RX10 ∧ yX10_sumOfStarts.cls ≠ "java/lang/invoke/MethodHandle" ∧ yX10_sumOfStarts.cls ≠ "java/lang/invoke/VarHandle" ∧ (parseMethodDescriptor yX10_sumOfStarts.desc).map (fun d => d.parameters.length) = some 0 := by decide +kernel
theorem vX10_sumOfStarts_10 : ∀ w ∈ u_ws RX10 TX10 4, w ∈ wsX10_sumOfStarts := by decide +kernel
theorem kX10_sumOfStarts_19 : Cond.fieldLink RX10 19 (TX10 2).1 (TX10 2).2.1 (TX10 2).2.2.1 ∈ wsX10_sumOfStarts := by decide +kernel
theorem jX10_sumOfStarts_46_i : Cond.initialized yX11_sumOf.cls ∈ wsX10_sumOfStarts := by decide +kernel
theorem jX10_sumOfStarts_46_s : Cond.static yX11_sumOf ∈ wsX10_sumOfStarts := by decide +kernel
theorem jX10_sumOfStarts_46_n : (RX10, 46, yX11_sumOf, "Festivalgrounds") ∈ rj_nw := by decide +kernel
def fX10_sumOfStarts (μ : rj_M) : Int32 := (fX11_sumOf μ 28 24)
set_option maxHeartbeats 4000000 in
set_option maxRecDepth 100000 in
theorem sX10_sumOfStarts {g : rj_G} {ω : rj_W} (hω : rj_ok ω) (μ : rj_M)   : rj_Sp g yX10_sumOfStarts wsX10_sumOfStarts (rj_rm 1 0) [.ref (ω.2.2 26)] ω μ (rj_D (.inl (some (.int (fX10_sumOfStarts μ)))) ω μ) := by
  refine rj_of' (cc := cX10_sumOfStarts) (nL := 1) (ret := (some .int)) (own := RX10) (l0 := [(0, .ref (ω.2.2 26))]) rfl (by decide +kernel) rfl (Nat.le_of_ble_eq_true rfl) rfl ?_
  refine rj_aload_n 0 dX10_sumOfStarts_0 rfl rfl ?_
  refine rj_getR (C0 := RX10) (T := TX10) (N := 4) (j := 2) (r := 28) dX10_sumOfStarts_1 rfl vX10_sumOfStarts_10 rfl (rj_lt hω (k := 26) rfl) (rj_sh hω ly_26) (by decide) kX10_sumOfStarts_19 rfl ?_
  refine rj_cSN (rest := []) (sX11_sumOf (g := g) (ω := ω) μ 28 24 (rj_lt hω (k := 28) rfl) (rj_sh hω ly_28) (rj_bl rfl) ) ggX10_sumOfStarts_X11_sumOf jX10_sumOfStarts_46_i jX10_sumOfStarts_46_s jX10_sumOfStarts_46_n rfl hSX11_sumOf ⟨Nat.le_of_ble_eq_true rfl, Nat.le_of_ble_eq_true rfl⟩ dX10_sumOfStarts_4 rfl rfl rfl (Nat.le_of_ble_eq_true rfl) rfl (Nat.le_of_ble_eq_true rfl) rfl ?_
  exact rj_iret dX10_sumOfStarts_7 rfl (Nat.le_of_ble_eq_true rfl) (Nat.le_of_ble_eq_true rfl) ⟨(by unfold fX10_sumOfStarts; rfl), rfl, rfl⟩
theorem hSX10_mostWith : yX10_mostWith.cls ≠ "java/lang/invoke/MethodHandle" ∧ yX10_mostWith.cls ≠ "java/lang/invoke/VarHandle" ∧ (parseMethodDescriptor yX10_mostWith.desc).map (fun d => d.parameters.length) = some 1 := by decide +kernel
theorem hVX10_mostWith : yX10_mostWith.cls = RX10 ∧ yX10_mostWith.cls ≠ "java/lang/invoke/MethodHandle" ∧ yX10_mostWith.cls ≠ "java/lang/invoke/VarHandle" ∧ (parseMethodDescriptor yX10_mostWith.desc).map (fun d => d.parameters.length) = some 1 := by decide +kernel
theorem vX10_mostWith_10 : ∀ w ∈ u_ws RX10 TX10 4, w ∈ wsX10_mostWith := by decide +kernel
theorem kX10_mostWith_15 : Cond.fieldLink RX10 15 (TX10 1).1 (TX10 1).2.1 (TX10 1).2.2.1 ∈ wsX10_mostWith := by decide +kernel
theorem kX10_mostWith_22 : Cond.fieldLink RX10 22 (TX10 3).1 (TX10 3).2.1 (TX10 3).2.2.1 ∈ wsX10_mostWith := by decide +kernel
theorem kX10_mostWith_9 : Cond.fieldLink RX10 9 (TX10 0).1 (TX10 0).2.1 (TX10 0).2.2.1 ∈ wsX10_mostWith := by decide +kernel
def fX10_mostWith (μ : rj_M) (a0 : Int32) : Int32 := (if a0 < 0 then 0 else (if 24 ≤ a0 then 0 else (if (a0 + (μ.1 26 1)) < 0 then 0 else (if (a0 + (μ.1 26 1)) < 34 then ((μ.1 27 a0.toNatClampNeg) + (μ.1 29 (a0 + (μ.1 26 1)).toNatClampNeg)) else 0))))
set_option maxHeartbeats 4000000 in
set_option maxRecDepth 100000 in
theorem sX10_mostWith {g : rj_G} {ω : rj_W} (hω : rj_ok ω) (μ : rj_M) (a0 : Int32)   : rj_Sp g yX10_mostWith wsX10_mostWith (rj_rm 0 0) [.ref (ω.2.2 26), .int a0] ω μ (rj_D (.inl (some (.int (fX10_mostWith μ a0)))) ω μ) := by
  refine rj_of' (cc := cX10_mostWith) (nL := 3) (ret := (some .int)) (own := RX10) (l0 := [(0, .ref (ω.2.2 26)), (1, .int a0)]) rfl (by decide +kernel) rfl (Nat.le_of_ble_eq_true rfl) rfl ?_
  refine rj_iload_n 1 dX10_mostWith_0 rfl rfl ?_
  refine rj_aload_n 0 dX10_mostWith_1 rfl rfl ?_
  refine rj_getI (C0 := RX10) (T := TX10) (N := 4) (j := 1) dX10_mostWith_2 rfl vX10_mostWith_10 rfl (rj_lt hω (k := 26) rfl) (rj_sh hω ly_26) (by decide) kX10_mostWith_15 rfl ?_
  refine rj_iadd dX10_mostWith_5 rfl ?_
  refine rj_istore_n (l' := [(2, .int (a0 + (μ.1 26 1))), (0, .ref (ω.2.2 26)), (1, .int a0)]) dX10_mostWith_6 rfl (rj_bl rfl) rfl ?_
  refine rj_iload_n 2 dX10_mostWith_7 rfl rfl ?_
  refine rj_if_lt dX10_mostWith_8 rfl rfl (fun h1 => ?_) (fun h1 => ?_)
  · refine rj_iconst (v := 0) dX10_mostWith_30 rfl (by decide) ?_
    exact rj_iret dX10_mostWith_31 rfl (Nat.le_of_ble_eq_true rfl) (Nat.le_of_ble_eq_true rfl) ⟨(by unfold fX10_mostWith; rw [if_pos h1]; try rfl), rfl, rfl⟩
  · refine rj_iload_n 2 dX10_mostWith_11 rfl rfl ?_
    refine rj_bipush (v := 24) dX10_mostWith_12 rfl (by decide) ?_
    refine rj_icmp_ge dX10_mostWith_14 rfl rfl (fun h2 => ?_) (fun h2 => ?_)
    · refine rj_iconst (v := 0) dX10_mostWith_30 rfl (by decide) ?_
      exact rj_iret dX10_mostWith_31 rfl (Nat.le_of_ble_eq_true rfl) (Nat.le_of_ble_eq_true rfl) ⟨(by unfold fX10_mostWith; rw [if_neg h1]; rw [if_pos h2]; try rfl), rfl, rfl⟩
    · refine rj_iload_n 0 dX10_mostWith_17 rfl rfl ?_
      refine rj_if_lt dX10_mostWith_18 rfl rfl (fun h3 => ?_) (fun h3 => ?_)
      · refine rj_iconst (v := 0) dX10_mostWith_30 rfl (by decide) ?_
        exact rj_iret dX10_mostWith_31 rfl (Nat.le_of_ble_eq_true rfl) (Nat.le_of_ble_eq_true rfl) ⟨(by unfold fX10_mostWith; rw [if_neg h1]; rw [if_neg h2]; rw [if_pos h3]; try rfl), rfl, rfl⟩
      · refine rj_iload_n 0 dX10_mostWith_21 rfl rfl ?_
        refine rj_aload_n 1 dX10_mostWith_22 rfl rfl ?_
        refine rj_getR (C0 := RX10) (T := TX10) (N := 4) (j := 3) (r := 29) dX10_mostWith_23 rfl vX10_mostWith_10 rfl (rj_lt hω (k := 26) rfl) (rj_sh hω ly_26) (by decide) kX10_mostWith_22 rfl ?_
        refine rj_alen (v := 34) dX10_mostWith_26 rfl (rj_lt hω (k := 29) rfl) (rj_sh hω ly_29) rfl rfl ?_
        refine rj_icmp_lt dX10_mostWith_27 rfl rfl (fun h4 => ?_) (fun h4 => ?_)
        · refine rj_aload_n 1 dX10_mostWith_32 rfl rfl ?_
          refine rj_getR (C0 := RX10) (T := TX10) (N := 4) (j := 0) (r := 27) dX10_mostWith_33 rfl vX10_mostWith_10 rfl (rj_lt hω (k := 26) rfl) (rj_sh hω ly_26) (by decide) kX10_mostWith_9 rfl ?_
          refine rj_iload_n 2 dX10_mostWith_36 rfl rfl ?_
          refine rj_iald dX10_mostWith_37 rfl (rj_lt hω (k := 27) rfl) (rj_sh hω ly_27) (rj_in h1 h2 rfl) ?_
          refine rj_aload_n 1 dX10_mostWith_38 rfl rfl ?_
          refine rj_getR (C0 := RX10) (T := TX10) (N := 4) (j := 3) (r := 29) dX10_mostWith_39 rfl vX10_mostWith_10 rfl (rj_lt hω (k := 26) rfl) (rj_sh hω ly_26) (by decide) kX10_mostWith_22 rfl ?_
          refine rj_iload_n 0 dX10_mostWith_42 rfl rfl ?_
          refine rj_iald dX10_mostWith_43 rfl (rj_lt hω (k := 29) rfl) (rj_sh hω ly_29) (rj_in h3 (Int32.not_le.mpr h4) rfl) ?_
          refine rj_iadd dX10_mostWith_44 rfl ?_
          exact rj_iret dX10_mostWith_45 rfl (Nat.le_of_ble_eq_true rfl) (Nat.le_of_ble_eq_true rfl) ⟨(by unfold fX10_mostWith; rw [if_neg h1]; rw [if_neg h2]; rw [if_neg h3]; rw [if_pos h4]; try rfl), rfl, rfl⟩
        · refine rj_iconst (v := 0) dX10_mostWith_30 rfl (by decide) ?_
          exact rj_iret dX10_mostWith_31 rfl (Nat.le_of_ble_eq_true rfl) (Nat.le_of_ble_eq_true rfl) ⟨(by unfold fX10_mostWith; rw [if_neg h1]; rw [if_neg h2]; rw [if_neg h3]; rw [if_neg h4]; try rfl), rfl, rfl⟩
theorem hSX10_neediestHours : yX10_neediestHours.cls ≠ "java/lang/invoke/MethodHandle" ∧ yX10_neediestHours.cls ≠ "java/lang/invoke/VarHandle" ∧ (parseMethodDescriptor yX10_neediestHours.desc).map (fun d => d.parameters.length) = some 0 := by decide +kernel
theorem hVX10_neediestHours : yX10_neediestHours.cls = RX10 ∧ yX10_neediestHours.cls ≠ "java/lang/invoke/MethodHandle" ∧ yX10_neediestHours.cls ≠ "java/lang/invoke/VarHandle" ∧ (parseMethodDescriptor yX10_neediestHours.desc).map (fun d => d.parameters.length) = some 0 := by decide +kernel
theorem vX10_neediestHours_10 : ∀ w ∈ u_ws RX10 TX10 4, w ∈ wsX10_neediestHours := by decide +kernel
theorem kX10_neediestHours_22 : Cond.fieldLink RX10 22 (TX10 3).1 (TX10 3).2.1 (TX10 3).2.2.1 ∈ wsX10_neediestHours := by decide +kernel
theorem jX10_neediestHours_29_i : Cond.initialized yX11_fillRow.cls ∈ wsX10_neediestHours := by decide +kernel
theorem jX10_neediestHours_29_s : Cond.static yX11_fillRow ∈ wsX10_neediestHours := by decide +kernel
theorem jX10_neediestHours_29_n : (RX10, 29, yX11_fillRow, "Festivalgrounds") ∈ rj_nw := by decide +kernel
theorem jX10_neediestHours_43_0 : Cond.methodLink RX10 43 Lib.Math.max.name ∈ wsX10_neediestHours := by decide +kernel
theorem jX10_neediestHours_43_1 : Cond.static Lib.Math.max.name ∈ wsX10_neediestHours := by decide +kernel
theorem jX10_neediestHours_43_2 : Cond.initialized "java/lang/Math" ∈ wsX10_neediestHours := by decide +kernel
theorem jX10_neediestHours_43_3 : Cond.code Lib.Math.max.name Lib.Math.max.code 2 (some .int) ∈ wsX10_neediestHours := by decide +kernel
theorem kX10_neediestHours_9 : Cond.fieldLink RX10 9 (TX10 0).1 (TX10 0).2.1 (TX10 0).2.2.1 ∈ wsX10_neediestHours := by decide +kernel
theorem kX10_neediestHours_15 : Cond.fieldLink RX10 15 (TX10 1).1 (TX10 1).2.1 (TX10 1).2.2.1 ∈ wsX10_neediestHours := by decide +kernel
def bX10_neediestHours_11 (μ : rj_M) (j11 : Nat) (s11 : rj_M) : rj_M := (rj_pi s11 29 (nI j11).toNatClampNeg (if (s11.1 29 ((nI j11) + 1).toNatClampNeg) < (fX10_mostWith s11 (nI j11)) then (fX10_mostWith s11 (nI j11)) else (s11.1 29 ((nI j11) + 1).toNatClampNeg)))
set_option maxHeartbeats 4000000 in
set_option maxRecDepth 100000 in
theorem lX10_neediestHours_11 {g : rj_G} {ω : rj_W} (hω : rj_ok ω) (μ : rj_M)   {F : rj_F} : ∀ (r : Nat) (s : rj_M), r ≤ 24 → (rj_R g RX10 cX10_neediestHours 4 (some .int) wsX10_neediestHours [] (rj_rm 1 0) F 0 ω (rj_do (bX10_neediestHours_11 μ) r s) [(0, .ref (ω.2.2 26)), (1, .int (nI 0 - 1))] 43 []) → rj_R g RX10 cX10_neediestHours 4 (some .int) wsX10_neediestHours [] (rj_rm 1 0) F 0 ω s [(0, .ref (ω.2.2 26)), (1, .int (nI r - 1))] 11 [] := by
  intro r
  induction r with
  | zero =>
    intro s hj K
    have hge : nI 0 - 1 < 0 := by decide
    refine rj_iload_n 1 dX10_neediestHours_11 rfl rfl ?_
    refine rj_if_lt dX10_neediestHours_12 rfl rfl (fun h2 => ?_) (fun h2 => ?_)
    · exact K
    · exact absurd hge h2
  | succ j11 ih =>
    intro s11 hj K
    have hl11 : j11 < 24 := by omega
    have hg11 : ¬ nI j11 < 0 := nI_pos (Nat.lt_trans hl11 (rj_bl rfl))
    rw [show nI (j11 + 1) - 1 = nI j11 from nI_pred j11]
    refine rj_iload_n 1 dX10_neediestHours_11 rfl rfl ?_
    refine rj_if_lt dX10_neediestHours_12 rfl rfl (fun h1 => ?_) (fun h1 => ?_)
    · exact absurd h1 hg11
    · refine rj_aload_n 0 dX10_neediestHours_15 rfl rfl ?_
      refine rj_getR (C0 := RX10) (T := TX10) (N := 4) (j := 3) (r := 29) dX10_neediestHours_16 rfl vX10_neediestHours_10 rfl (rj_lt hω (k := 26) rfl) (rj_sh hω ly_26) (by decide) kX10_neediestHours_22 rfl ?_
      refine rj_iload_n 1 dX10_neediestHours_19 rfl rfl ?_
      refine rj_aload_n 0 dX10_neediestHours_20 rfl rfl ?_
      refine rj_getR (C0 := RX10) (T := TX10) (N := 4) (j := 3) (r := 29) dX10_neediestHours_21 rfl vX10_neediestHours_10 rfl (rj_lt hω (k := 26) rfl) (rj_sh hω ly_26) (by decide) kX10_neediestHours_22 rfl ?_
      refine rj_iload_n 1 dX10_neediestHours_24 rfl rfl ?_
      refine rj_iconst (v := 1) dX10_neediestHours_25 rfl (by decide) ?_
      refine rj_iadd dX10_neediestHours_26 rfl ?_
      refine rj_iald dX10_neediestHours_27 rfl (rj_lt hω (k := 29) rfl) (rj_sh hω ly_29) (by rw [← nI_succ]; exact vp_in_nI (Nat.lt_of_le_of_lt hl11 (rj_bl rfl)) (rj_bl rfl)) ?_
      refine rj_aload_n 0 dX10_neediestHours_28 rfl rfl ?_
      refine rj_iload_n 1 dX10_neediestHours_29 rfl rfl ?_
      refine rj_cV (rest := [.int (s11.1 29 ((nI j11) + 1).toNatClampNeg), .int (nI j11), .ref (ω.2.2 29)]) (sX10_mostWith (g := g) (ω := ω) hω s11 (nI j11)  ) gX10_neediestHours_X10_mostWith (rj_lt hω (k := 26) rfl) (rj_sh hω ly_26) rfl rfl hVX10_mostWith ⟨Nat.le_of_ble_eq_true rfl, Nat.le_of_ble_eq_true rfl⟩ dX10_neediestHours_30 rfl rfl rfl (Nat.le_of_ble_eq_true rfl) rfl (Nat.le_of_ble_eq_true rfl) rfl ?_
      refine rj_mmax dX10_neediestHours_33 rfl jX10_neediestHours_43_0 jX10_neediestHours_43_1 jX10_neediestHours_43_2 jX10_neediestHours_43_3 (Nat.le_of_ble_eq_true rfl) (Nat.le_of_ble_eq_true rfl) (Nat.le_of_ble_eq_true rfl) (Nat.le_of_ble_eq_true rfl) ?_
      refine rj_iast dX10_neediestHours_36 rfl (rj_lt hω (k := 29) rfl) (rj_sh hω ly_29) (vp_in_nI (Nat.lt_of_lt_of_le hl11 (Nat.le_of_ble_eq_true rfl)) (rj_bl rfl)) ?_
      refine rj_iinc (v := (nI j11) + (-1)) (l' := [(1, .int ((nI j11) + (-1))), (0, .ref (ω.2.2 26))]) 1 dX10_neediestHours_37 rfl rfl rfl (rj_bl rfl) rfl ?_
      refine rj_goto dX10_neediestHours_40 rfl ?_
      have e : bX10_neediestHours_11 μ j11 s11 = (rj_pi s11 29 (nI j11).toNatClampNeg (if (s11.1 29 ((nI j11) + 1).toNatClampNeg) < (fX10_mostWith s11 (nI j11)) then (fX10_mostWith s11 (nI j11)) else (s11.1 29 ((nI j11) + 1).toNatClampNeg))) := by unfold bX10_neediestHours_11; rfl
      rw [show nI j11 + (-1) = nI j11 - 1 from (Int32.sub_eq_add_neg ..).symm]
      exact rj_sub (l' := [(0, .ref (ω.2.2 26)), (1, .int (nI j11 - 1))]) [1, 0] rfl (ih (rj_pi s11 29 (nI j11).toNatClampNeg (if (s11.1 29 ((nI j11) + 1).toNatClampNeg) < (fX10_mostWith s11 (nI j11)) then (fX10_mostWith s11 (nI j11)) else (s11.1 29 ((nI j11) + 1).toNatClampNeg))) (by omega) (by rw [rj_do_s, e] at K; exact K))
def bX10_neediestHours_49 (μ : rj_M) (j49 : Nat) (s49 : Int32 × Int32) : (Int32 × Int32) := (if nI j49 < s49.2 then (s49.1, s49.2) else (if ((rj_do (bX10_neediestHours_11 μ) 24 (mX11_fillRow μ 29 34 0)).1 27 (nI j49).toNatClampNeg) ≤ 0 then (s49.1, s49.2) else (if (fX10_mostWith (rj_do (bX10_neediestHours_11 μ) 24 (mX11_fillRow μ 29 34 0)) (nI j49)) < ((rj_do (bX10_neediestHours_11 μ) 24 (mX11_fillRow μ 29 34 0)).1 29 ((nI j49) + 1).toNatClampNeg) then (s49.1, s49.2) else ((s49.1 ||| (1 <<< ((nI j49) &&& 31))), ((nI j49) + ((rj_do (bX10_neediestHours_11 μ) 24 (mX11_fillRow μ 29 34 0)).1 26 1))))))
set_option maxHeartbeats 4000000 in
set_option maxRecDepth 100000 in
theorem lX10_neediestHours_49 {g : rj_G} {ω : rj_W} (hω : rj_ok ω) (μ : rj_M)     {F : rj_F} : ∀ (r j : Nat) (s : Int32 × Int32), j + r = 24 → (rj_R g RX10 cX10_neediestHours 4 (some .int) wsX10_neediestHours [] (rj_rm 1 0) F 0 ω (rj_do (bX10_neediestHours_11 μ) 24 (mX11_fillRow μ 29 34 0)) [(0, .ref (ω.2.2 26)), (1, .int ((rj_fo (bX10_neediestHours_49 μ) r j s).1)), (2, .int ((rj_fo (bX10_neediestHours_49 μ) r j s).2)), (3, .int (nI 24))] 104 []) → rj_R g RX10 cX10_neediestHours 4 (some .int) wsX10_neediestHours [] (rj_rm 1 0) F 0 ω (rj_do (bX10_neediestHours_11 μ) 24 (mX11_fillRow μ 29 34 0)) [(0, .ref (ω.2.2 26)), (1, .int s.1), (2, .int s.2), (3, .int (nI j))] 49 [] := by
  intro r
  induction r with
  | zero =>
    intro j s hj K
    have e0 : j = 24 := by omega
    have hge : 24 ≤ nI j := by
      rw [e0]
      exact Int32.le_refl _
    refine rj_iload_n 3 dX10_neediestHours_49 rfl rfl ?_
    refine rj_bipush (v := 24) dX10_neediestHours_50 rfl (by decide) ?_
    refine rj_icmp_ge dX10_neediestHours_52 rfl rfl (fun h7 => ?_) (fun h7 => ?_)
    · have e1 : nI j = nI 24 := by rw [e0]
      rw [e1]
      exact K
    · exact absurd hge h7
  | succ r ih =>
    intro j49 s49 hj K
    have hl49 : j49 < 24 := by omega
    have hg49 : ¬ 24 ≤ nI j49 := nI_ge hl49 (rj_bl rfl)
    refine rj_iload_n 3 dX10_neediestHours_49 rfl rfl ?_
    refine rj_bipush (v := 24) dX10_neediestHours_50 rfl (by decide) ?_
    refine rj_icmp_ge dX10_neediestHours_52 rfl rfl (fun h3 => ?_) (fun h3 => ?_)
    · exact absurd h3 hg49
    · refine rj_iload_n 3 dX10_neediestHours_55 rfl rfl ?_
      refine rj_iload_n 2 dX10_neediestHours_56 rfl rfl ?_
      refine rj_icmp_lt dX10_neediestHours_57 rfl rfl (fun h4 => ?_) (fun h4 => ?_)
      · refine rj_iinc (v := nI (j49 + 1)) (l' := [(3, .int (nI (j49 + 1))), (0, .ref (ω.2.2 26)), (1, .int s49.1), (2, .int s49.2)]) 3 dX10_neediestHours_98 rfl rfl (nI_succ j49).symm (rj_bl rfl) rfl ?_
        refine rj_goto dX10_neediestHours_101 rfl ?_
        have e : bX10_neediestHours_49 μ j49 s49 = (s49.1, s49.2) := by unfold bX10_neediestHours_49; rw [if_pos h4]; try rfl
        exact rj_sub (l' := [(0, .ref (ω.2.2 26)), (1, .int s49.1), (2, .int s49.2), (3, .int (nI (j49 + 1)))]) [1, 2, 3, 0] rfl (ih (j49 + 1) (s49.1, s49.2) (by omega) (by rw [rj_fo_s, e] at K; exact K))
      · refine rj_aload_n 0 dX10_neediestHours_60 rfl rfl ?_
        refine rj_getR (C0 := RX10) (T := TX10) (N := 4) (j := 0) (r := 27) dX10_neediestHours_61 rfl vX10_neediestHours_10 rfl (rj_lt hω (k := 26) rfl) (rj_sh hω ly_26) (by decide) kX10_neediestHours_9 rfl ?_
        refine rj_iload_n 3 dX10_neediestHours_64 rfl rfl ?_
        refine rj_iald dX10_neediestHours_65 rfl (rj_lt hω (k := 27) rfl) (rj_sh hω ly_27) (vp_in_nI hl49 (rj_bl rfl)) ?_
        refine rj_if_le dX10_neediestHours_66 rfl rfl (fun h5 => ?_) (fun h5 => ?_)
        · refine rj_iinc (v := nI (j49 + 1)) (l' := [(3, .int (nI (j49 + 1))), (0, .ref (ω.2.2 26)), (1, .int s49.1), (2, .int s49.2)]) 3 dX10_neediestHours_98 rfl rfl (nI_succ j49).symm (rj_bl rfl) rfl ?_
          refine rj_goto dX10_neediestHours_101 rfl ?_
          have e : bX10_neediestHours_49 μ j49 s49 = (s49.1, s49.2) := by unfold bX10_neediestHours_49; rw [if_neg h4]; rw [if_pos h5]; try rfl
          exact rj_sub (l' := [(0, .ref (ω.2.2 26)), (1, .int s49.1), (2, .int s49.2), (3, .int (nI (j49 + 1)))]) [1, 2, 3, 0] rfl (ih (j49 + 1) (s49.1, s49.2) (by omega) (by rw [rj_fo_s, e] at K; exact K))
        · refine rj_aload_n 0 dX10_neediestHours_69 rfl rfl ?_
          refine rj_iload_n 3 dX10_neediestHours_70 rfl rfl ?_
          refine rj_cV (rest := []) (sX10_mostWith (g := g) (ω := ω) hω (rj_do (bX10_neediestHours_11 μ) 24 (mX11_fillRow μ 29 34 0)) (nI j49)  ) gX10_neediestHours_X10_mostWith (rj_lt hω (k := 26) rfl) (rj_sh hω ly_26) rfl rfl hVX10_mostWith ⟨Nat.le_of_ble_eq_true rfl, Nat.le_of_ble_eq_true rfl⟩ dX10_neediestHours_71 rfl rfl rfl (Nat.le_of_ble_eq_true rfl) rfl (Nat.le_of_ble_eq_true rfl) rfl ?_
          refine rj_aload_n 0 dX10_neediestHours_74 rfl rfl ?_
          refine rj_getR (C0 := RX10) (T := TX10) (N := 4) (j := 3) (r := 29) dX10_neediestHours_75 rfl vX10_neediestHours_10 rfl (rj_lt hω (k := 26) rfl) (rj_sh hω ly_26) (by decide) kX10_neediestHours_22 rfl ?_
          refine rj_iload_n 3 dX10_neediestHours_78 rfl rfl ?_
          refine rj_iconst (v := 1) dX10_neediestHours_79 rfl (by decide) ?_
          refine rj_iadd dX10_neediestHours_80 rfl ?_
          refine rj_iald dX10_neediestHours_81 rfl (rj_lt hω (k := 29) rfl) (rj_sh hω ly_29) (by rw [← nI_succ]; exact vp_in_nI (Nat.lt_of_le_of_lt hl49 (rj_bl rfl)) (rj_bl rfl)) ?_
          refine rj_icmp_lt dX10_neediestHours_82 rfl rfl (fun h6 => ?_) (fun h6 => ?_)
          · refine rj_iinc (v := nI (j49 + 1)) (l' := [(3, .int (nI (j49 + 1))), (0, .ref (ω.2.2 26)), (1, .int s49.1), (2, .int s49.2)]) 3 dX10_neediestHours_98 rfl rfl (nI_succ j49).symm (rj_bl rfl) rfl ?_
            refine rj_goto dX10_neediestHours_101 rfl ?_
            have e : bX10_neediestHours_49 μ j49 s49 = (s49.1, s49.2) := by unfold bX10_neediestHours_49; rw [if_neg h4]; rw [if_neg h5]; rw [if_pos h6]; try rfl
            exact rj_sub (l' := [(0, .ref (ω.2.2 26)), (1, .int s49.1), (2, .int s49.2), (3, .int (nI (j49 + 1)))]) [1, 2, 3, 0] rfl (ih (j49 + 1) (s49.1, s49.2) (by omega) (by rw [rj_fo_s, e] at K; exact K))
          · refine rj_iload_n 1 dX10_neediestHours_85 rfl rfl ?_
            refine rj_iconst (v := 1) dX10_neediestHours_86 rfl (by decide) ?_
            refine rj_iload_n 3 dX10_neediestHours_87 rfl rfl ?_
            refine rj_ishl dX10_neediestHours_88 rfl ?_
            refine rj_ior dX10_neediestHours_89 rfl ?_
            refine rj_istore_n (l' := [(1, .int (s49.1 ||| (1 <<< ((nI j49) &&& 31)))), (0, .ref (ω.2.2 26)), (2, .int s49.2), (3, .int (nI j49))]) dX10_neediestHours_90 rfl (rj_bl rfl) rfl ?_
            refine rj_iload_n 3 dX10_neediestHours_91 rfl rfl ?_
            refine rj_aload_n 1 dX10_neediestHours_92 rfl rfl ?_
            refine rj_getI (C0 := RX10) (T := TX10) (N := 4) (j := 1) dX10_neediestHours_93 rfl vX10_neediestHours_10 rfl (rj_lt hω (k := 26) rfl) (rj_sh hω ly_26) (by decide) kX10_neediestHours_15 rfl ?_
            refine rj_iadd dX10_neediestHours_96 rfl ?_
            refine rj_istore_n (l' := [(2, .int ((nI j49) + ((rj_do (bX10_neediestHours_11 μ) 24 (mX11_fillRow μ 29 34 0)).1 26 1))), (1, .int (s49.1 ||| (1 <<< ((nI j49) &&& 31)))), (0, .ref (ω.2.2 26)), (3, .int (nI j49))]) dX10_neediestHours_97 rfl (rj_bl rfl) rfl ?_
            refine rj_iinc (v := nI (j49 + 1)) (l' := [(3, .int (nI (j49 + 1))), (2, .int ((nI j49) + ((rj_do (bX10_neediestHours_11 μ) 24 (mX11_fillRow μ 29 34 0)).1 26 1))), (1, .int (s49.1 ||| (1 <<< ((nI j49) &&& 31)))), (0, .ref (ω.2.2 26))]) 3 dX10_neediestHours_98 rfl rfl (nI_succ j49).symm (rj_bl rfl) rfl ?_
            refine rj_goto dX10_neediestHours_101 rfl ?_
            have e : bX10_neediestHours_49 μ j49 s49 = ((s49.1 ||| (1 <<< ((nI j49) &&& 31))), ((nI j49) + ((rj_do (bX10_neediestHours_11 μ) 24 (mX11_fillRow μ 29 34 0)).1 26 1))) := by unfold bX10_neediestHours_49; rw [if_neg h4]; rw [if_neg h5]; rw [if_neg h6]; try rfl
            exact rj_sub (l' := [(0, .ref (ω.2.2 26)), (1, .int (s49.1 ||| (1 <<< ((nI j49) &&& 31)))), (2, .int ((nI j49) + ((rj_do (bX10_neediestHours_11 μ) 24 (mX11_fillRow μ 29 34 0)).1 26 1))), (3, .int (nI (j49 + 1)))]) [3, 2, 1, 0] rfl (ih (j49 + 1) ((s49.1 ||| (1 <<< ((nI j49) &&& 31))), ((nI j49) + ((rj_do (bX10_neediestHours_11 μ) 24 (mX11_fillRow μ 29 34 0)).1 26 1))) (by omega) (by rw [rj_fo_s, e] at K; exact K))
set_option maxHeartbeats 4000000 in
theorem lX10_neediestHours_49u {g : rj_G} {ω : rj_W} (hω : rj_ok ω) (μ : rj_M)     {F : rj_F} : ∀ (r j : Nat) (c0 : Int32) (c1 : Int32), j + r = 24 → (rj_R g RX10 cX10_neediestHours 4 (some .int) wsX10_neediestHours [] (rj_rm 1 0) F 0 ω (rj_do (bX10_neediestHours_11 μ) 24 (mX11_fillRow μ 29 34 0)) [(0, .ref (ω.2.2 26)), (1, .int ((rj_fo (bX10_neediestHours_49 μ) r j (c0, c1)).1)), (2, .int ((rj_fo (bX10_neediestHours_49 μ) r j (c0, c1)).2)), (3, .int (nI 24))] 104 []) → rj_R g RX10 cX10_neediestHours 4 (some .int) wsX10_neediestHours [] (rj_rm 1 0) F 0 ω (rj_do (bX10_neediestHours_11 μ) 24 (mX11_fillRow μ 29 34 0)) [(0, .ref (ω.2.2 26)), (1, .int c0), (2, .int c1), (3, .int (nI j))] 49 [] := fun r j c0 c1 => lX10_neediestHours_49 hω μ     r j (c0, c1)
def fX10_neediestHours (μ : rj_M) : Int32 := (rj_fo (bX10_neediestHours_49 μ) 24 0 (0, 0)).1
def mX10_neediestHours (μ : rj_M) : rj_M := (rj_do (bX10_neediestHours_11 μ) 24 (mX11_fillRow μ 29 34 0))
set_option maxHeartbeats 4000000 in
set_option maxRecDepth 100000 in
theorem sX10_neediestHours {g : rj_G} {ω : rj_W} (hω : rj_ok ω) (μ : rj_M)   : rj_Sp g yX10_neediestHours wsX10_neediestHours (rj_rm 1 0) [.ref (ω.2.2 26)] ω μ (rj_D (.inl (some (.int (fX10_neediestHours μ)))) ω (mX10_neediestHours μ)) := by
  refine rj_of' (cc := cX10_neediestHours) (nL := 4) (ret := (some .int)) (own := RX10) (l0 := [(0, .ref (ω.2.2 26))]) rfl (by decide +kernel) rfl (Nat.le_of_ble_eq_true rfl) rfl ?_
  refine rj_aload_n 0 dX10_neediestHours_0 rfl rfl ?_
  refine rj_getR (C0 := RX10) (T := TX10) (N := 4) (j := 3) (r := 29) dX10_neediestHours_1 rfl vX10_neediestHours_10 rfl (rj_lt hω (k := 26) rfl) (rj_sh hω ly_26) (by decide) kX10_neediestHours_22 rfl ?_
  refine rj_iconst (v := 0) dX10_neediestHours_4 rfl (by decide) ?_
  refine rj_cSN (rest := []) (sX11_fillRow (g := g) (ω := ω) μ 29 34 0 (rj_lt hω (k := 29) rfl) (rj_sh hω ly_29) (rj_bl rfl) ) ggX10_neediestHours_X11_fillRow jX10_neediestHours_29_i jX10_neediestHours_29_s jX10_neediestHours_29_n rfl hSX11_fillRow ⟨Nat.le_of_ble_eq_true rfl, Nat.le_of_ble_eq_true rfl⟩ dX10_neediestHours_5 rfl rfl rfl (Nat.le_of_ble_eq_true rfl) rfl (Nat.le_of_ble_eq_true rfl) rfl ?_
  refine rj_bipush (v := 23) dX10_neediestHours_8 rfl (by decide) ?_
  refine rj_istore_n (l' := [(1, .int 23), (0, .ref (ω.2.2 26))]) dX10_neediestHours_10 rfl (rj_bl rfl) rfl ?_
  refine rj_sub (l' := [(0, .ref (ω.2.2 26)), (1, .int (nI 24 - 1))]) [1, 0] rfl ?_
  refine lX10_neediestHours_11 hω μ   24 (mX11_fillRow μ 29 34 0) (Nat.le_refl _) ?_
  refine rj_iconst (v := 0) dX10_neediestHours_43 rfl (by decide) ?_
  refine rj_istore_n (l' := [(1, .int 0), (0, .ref (ω.2.2 26))]) dX10_neediestHours_44 rfl (rj_bl rfl) rfl ?_
  refine rj_iconst (v := 0) dX10_neediestHours_45 rfl (by decide) ?_
  refine rj_istore_n (l' := [(2, .int 0), (1, .int 0), (0, .ref (ω.2.2 26))]) dX10_neediestHours_46 rfl (rj_bl rfl) rfl ?_
  refine rj_iconst (v := 0) dX10_neediestHours_47 rfl (by decide) ?_
  refine rj_istore_n (l' := [(3, .int 0), (2, .int 0), (1, .int 0), (0, .ref (ω.2.2 26))]) dX10_neediestHours_48 rfl (rj_bl rfl) rfl ?_
  refine rj_sub (l' := [(0, .ref (ω.2.2 26)), (1, .int 0), (2, .int 0), (3, .int (nI 0))]) [3, 2, 1, 0] rfl ?_
  refine lX10_neediestHours_49u hω μ     24 0 0 0 rfl ?_
  refine rj_iload_n 1 dX10_neediestHours_104 rfl rfl ?_
  exact rj_iret dX10_neediestHours_105 rfl (Nat.le_of_ble_eq_true rfl) (Nat.le_of_ble_eq_true rfl) ⟨(by unfold fX10_neediestHours; rfl), rfl, (by unfold mX10_neediestHours; rfl)⟩
theorem hSX10_needOf : yX10_needOf.cls ≠ "java/lang/invoke/MethodHandle" ∧ yX10_needOf.cls ≠ "java/lang/invoke/VarHandle" ∧ (parseMethodDescriptor yX10_needOf.desc).map (fun d => d.parameters.length) = some 1 := by decide +kernel
theorem hVX10_needOf : yX10_needOf.cls = RX10 ∧ yX10_needOf.cls ≠ "java/lang/invoke/MethodHandle" ∧ yX10_needOf.cls ≠ "java/lang/invoke/VarHandle" ∧ (parseMethodDescriptor yX10_needOf.desc).map (fun d => d.parameters.length) = some 1 := by decide +kernel
theorem vX10_needOf_10 : ∀ w ∈ u_ws RX10 TX10 4, w ∈ wsX10_needOf := by decide +kernel
theorem kX10_needOf_9 : Cond.fieldLink RX10 9 (TX10 0).1 (TX10 0).2.1 (TX10 0).2.2.1 ∈ wsX10_needOf := by decide +kernel
def bX10_needOf_4 (μ : rj_M) (a0 : Int32) (j4 : Nat) (s4 : Int32) : Int32 := (if ((a0 >>> ((nI j4) &&& 31)) &&& 1) = 0 then s4 else (s4 + (μ.1 27 (nI j4).toNatClampNeg)))
set_option maxHeartbeats 4000000 in
set_option maxRecDepth 100000 in
theorem lX10_needOf_4 {g : rj_G} {ω : rj_W} (hω : rj_ok ω) (μ : rj_M) (a0 : Int32)     {F : rj_F} : ∀ (r j : Nat) (s : Int32), j + r = 24 → (rj_R g RX10 cX10_needOf 4 (some .int) wsX10_needOf [] (rj_rm 0 0) F 0 ω μ [(0, .ref (ω.2.2 26)), (1, .int a0), (2, .int (rj_fo (bX10_needOf_4 μ a0) r j s)), (3, .int (nI 24))] 33 []) → rj_R g RX10 cX10_needOf 4 (some .int) wsX10_needOf [] (rj_rm 0 0) F 0 ω μ [(0, .ref (ω.2.2 26)), (1, .int a0), (2, .int s), (3, .int (nI j))] 4 [] := by
  intro r
  induction r with
  | zero =>
    intro j s hj K
    have e0 : j = 24 := by omega
    have hge : 24 ≤ nI j := by
      rw [e0]
      exact Int32.le_refl _
    refine rj_iload_n 3 dX10_needOf_4 rfl rfl ?_
    refine rj_bipush (v := 24) dX10_needOf_5 rfl (by decide) ?_
    refine rj_icmp_ge dX10_needOf_7 rfl rfl (fun h3 => ?_) (fun h3 => ?_)
    · have e1 : nI j = nI 24 := by rw [e0]
      rw [e1]
      exact K
    · exact absurd hge h3
  | succ r ih =>
    intro j4 s4 hj K
    have hl4 : j4 < 24 := by omega
    have hg4 : ¬ 24 ≤ nI j4 := nI_ge hl4 (rj_bl rfl)
    refine rj_iload_n 3 dX10_needOf_4 rfl rfl ?_
    refine rj_bipush (v := 24) dX10_needOf_5 rfl (by decide) ?_
    refine rj_icmp_ge dX10_needOf_7 rfl rfl (fun h1 => ?_) (fun h1 => ?_)
    · exact absurd h1 hg4
    · refine rj_iload_n 1 dX10_needOf_10 rfl rfl ?_
      refine rj_iload_n 3 dX10_needOf_11 rfl rfl ?_
      refine rj_ishr dX10_needOf_12 rfl ?_
      refine rj_iconst (v := 1) dX10_needOf_13 rfl (by decide) ?_
      refine rj_iand dX10_needOf_14 rfl ?_
      refine rj_if_eq dX10_needOf_15 rfl rfl (fun h2 => ?_) (fun h2 => ?_)
      · refine rj_iinc (v := nI (j4 + 1)) (l' := [(3, .int (nI (j4 + 1))), (0, .ref (ω.2.2 26)), (1, .int a0), (2, .int s4)]) 3 dX10_needOf_27 rfl rfl (nI_succ j4).symm (rj_bl rfl) rfl ?_
        refine rj_goto dX10_needOf_30 rfl ?_
        have e : bX10_needOf_4 μ a0 j4 s4 = s4 := by unfold bX10_needOf_4; rw [if_pos h2]; try rfl
        exact rj_sub (l' := [(0, .ref (ω.2.2 26)), (1, .int a0), (2, .int s4), (3, .int (nI (j4 + 1)))]) [1, 2, 3, 0] rfl (ih (j4 + 1) s4 (by omega) (by rw [rj_fo_s, e] at K; exact K))
      · refine rj_iload_n 2 dX10_needOf_18 rfl rfl ?_
        refine rj_aload_n 0 dX10_needOf_19 rfl rfl ?_
        refine rj_getR (C0 := RX10) (T := TX10) (N := 4) (j := 0) (r := 27) dX10_needOf_20 rfl vX10_needOf_10 rfl (rj_lt hω (k := 26) rfl) (rj_sh hω ly_26) (by decide) kX10_needOf_9 rfl ?_
        refine rj_iload_n 3 dX10_needOf_23 rfl rfl ?_
        refine rj_iald dX10_needOf_24 rfl (rj_lt hω (k := 27) rfl) (rj_sh hω ly_27) (vp_in_nI hl4 (rj_bl rfl)) ?_
        refine rj_iadd dX10_needOf_25 rfl ?_
        refine rj_istore_n (l' := [(2, .int (s4 + (μ.1 27 (nI j4).toNatClampNeg))), (0, .ref (ω.2.2 26)), (1, .int a0), (3, .int (nI j4))]) dX10_needOf_26 rfl (rj_bl rfl) rfl ?_
        refine rj_iinc (v := nI (j4 + 1)) (l' := [(3, .int (nI (j4 + 1))), (2, .int (s4 + (μ.1 27 (nI j4).toNatClampNeg))), (0, .ref (ω.2.2 26)), (1, .int a0)]) 3 dX10_needOf_27 rfl rfl (nI_succ j4).symm (rj_bl rfl) rfl ?_
        refine rj_goto dX10_needOf_30 rfl ?_
        have e : bX10_needOf_4 μ a0 j4 s4 = (s4 + (μ.1 27 (nI j4).toNatClampNeg)) := by unfold bX10_needOf_4; rw [if_neg h2]; try rfl
        exact rj_sub (l' := [(0, .ref (ω.2.2 26)), (1, .int a0), (2, .int (s4 + (μ.1 27 (nI j4).toNatClampNeg))), (3, .int (nI (j4 + 1)))]) [2, 3, 1, 0] rfl (ih (j4 + 1) (s4 + (μ.1 27 (nI j4).toNatClampNeg)) (by omega) (by rw [rj_fo_s, e] at K; exact K))
def fX10_needOf (μ : rj_M) (a0 : Int32) : Int32 := (rj_fo (bX10_needOf_4 μ a0) 24 0 0)
set_option maxHeartbeats 4000000 in
set_option maxRecDepth 100000 in
theorem sX10_needOf {g : rj_G} {ω : rj_W} (hω : rj_ok ω) (μ : rj_M) (a0 : Int32)   : rj_Sp g yX10_needOf wsX10_needOf (rj_rm 0 0) [.ref (ω.2.2 26), .int a0] ω μ (rj_D (.inl (some (.int (fX10_needOf μ a0)))) ω μ) := by
  refine rj_of' (cc := cX10_needOf) (nL := 4) (ret := (some .int)) (own := RX10) (l0 := [(0, .ref (ω.2.2 26)), (1, .int a0)]) rfl (by decide +kernel) rfl (Nat.le_of_ble_eq_true rfl) rfl ?_
  refine rj_iconst (v := 0) dX10_needOf_0 rfl (by decide) ?_
  refine rj_istore_n (l' := [(2, .int 0), (0, .ref (ω.2.2 26)), (1, .int a0)]) dX10_needOf_1 rfl (rj_bl rfl) rfl ?_
  refine rj_iconst (v := 0) dX10_needOf_2 rfl (by decide) ?_
  refine rj_istore_n (l' := [(3, .int 0), (2, .int 0), (0, .ref (ω.2.2 26)), (1, .int a0)]) dX10_needOf_3 rfl (rj_bl rfl) rfl ?_
  refine rj_sub (l' := [(0, .ref (ω.2.2 26)), (1, .int a0), (2, .int 0), (3, .int (nI 0))]) [2, 3, 1, 0] rfl ?_
  refine lX10_needOf_4 hω μ a0     24 0 0 rfl ?_
  refine rj_iload_n 2 dX10_needOf_33 rfl rfl ?_
  exact rj_iret dX10_needOf_34 rfl (Nat.le_of_ble_eq_true rfl) (Nat.le_of_ble_eq_true rfl) ⟨(by unfold fX10_needOf; rfl), rfl, rfl⟩
