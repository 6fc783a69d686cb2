theorem hSX3_minutesOut : yX3_minutesOut.cls ≠ "java/lang/invoke/MethodHandle" ∧ yX3_minutesOut.cls ≠ "java/lang/invoke/VarHandle" ∧ (parseMethodDescriptor yX3_minutesOut.desc).map (fun d => d.parameters.length) = some 0 := by decide +kernel
theorem hVX3_minutesOut : yX3_minutesOut.cls = RX3 ∧ yX3_minutesOut.cls ≠ "java/lang/invoke/MethodHandle" ∧ yX3_minutesOut.cls ≠ "java/lang/invoke/VarHandle" ∧ (parseMethodDescriptor yX3_minutesOut.desc).map (fun d => d.parameters.length) = some 0 := by decide +kernel
theorem vX3_minutesOut_3 : ∀ w ∈ u_ws RX3 TX3 3, w ∈ wsX3_minutesOut := by decide +kernel
theorem kX3_minutesOut_18 : Cond.fieldLink RX3 18 (TX3 2).1 (TX3 2).2.1 (TX3 2).2.2.1 ∈ wsX3_minutesOut := by decide +kernel
theorem jX3_minutesOut_29_i : Cond.initialized yX11_sumOf.cls ∈ wsX3_minutesOut := by decide +kernel
theorem jX3_minutesOut_29_s : Cond.static yX11_sumOf ∈ wsX3_minutesOut := by decide +kernel
theorem jX3_minutesOut_29_n : (RX3, 29, yX11_sumOf, "Festivalgrounds") ∈ rj_nw := by decide +kernel
theorem kX3_minutesOut_9 : Cond.fieldLink RX3 9 (TX3 0).1 (TX3 0).2.1 (TX3 0).2.2.1 ∈ wsX3_minutesOut := by decide +kernel
def bX3_minutesOut_30 (μ : rj_M) (s30 : Int32 × Int32) : (Int32 × Int32) ⊕ (Int32 × Int32) := (if s30.2 ≤ 0 then .inr (s30.1, s30.2) else (if (fX3_firstTooFull μ ((s30.1 + s30.2) - 1)) = 0 then .inl (s30.1, (s30.2 / 2)) else .inl ((s30.1 + s30.2), (s30.2 / 2))))
def qX3_minutesOut_30 (μ : rj_M) (s30 : Int32 × Int32) : Prop := True
set_option maxHeartbeats 4000000 in
set_option maxRecDepth 100000 in
theorem lX3_minutesOut_30 {g : rj_G} {ω : rj_W} (hω : rj_ok ω) (μ : rj_M)    (h1 : ¬ ((fX11_sumOf μ 20 4) = 0)) (h2 : ¬ ((fX11_sumOf μ 18 3) = 0)) {F : rj_F} : ∀ (r : Nat) (s : Int32 × Int32), rq_we (qX3_minutesOut_30 μ) (bX3_minutesOut_30 μ) r s → (rj_R g RX3 cX3_minutesOut 3 (some .int) wsX3_minutesOut [] (rj_rm 4 0) F 0 ω μ [(0, .ref (ω.2.2 17)), (1, .int ((rj_we (bX3_minutesOut_30 μ) r s).1)), (2, .int ((rj_we (bX3_minutesOut_30 μ) r s).2))] 57 []) → rj_R g RX3 cX3_minutesOut 3 (some .int) wsX3_minutesOut [] (rj_rm 4 0) F 0 ω μ [(0, .ref (ω.2.2 17)), (1, .int s.1), (2, .int s.2)] 30 [] := by
  intro r
  induction r with
  | zero =>
    intro s hq0 K
    exact hq0.elim
  | succ r ih =>
    intro s30 hq0 K
    rw [rq_we_s] at hq0
    have hqa := hq0.1
    have hqn := hq0.2
    unfold qX3_minutesOut_30 at hqa
    refine rj_iload_n 2 dX3_minutesOut_30 rfl rfl ?_
    refine rj_if_le dX3_minutesOut_31 rfl rfl (fun h3 => ?_) (fun h3 => ?_)
    · skip
      have e : bX3_minutesOut_30 μ s30 = .inr (s30.1, s30.2) := by unfold bX3_minutesOut_30; rw [if_pos h3]; try rfl
      exact rj_sub (l' := [(0, .ref (ω.2.2 17)), (1, .int s30.1), (2, .int s30.2)]) [0, 1, 2] rfl (by rw [rj_we_r e] at K; exact K)
    · skip
      refine rj_aload_n 0 dX3_minutesOut_34 rfl rfl ?_
      refine rj_iload_n 1 dX3_minutesOut_35 rfl rfl ?_
      refine rj_iload_n 2 dX3_minutesOut_36 rfl rfl ?_
      refine rj_iadd dX3_minutesOut_37 rfl ?_
      refine rj_iconst (v := 1) dX3_minutesOut_38 rfl (by decide) ?_
      refine rj_isub dX3_minutesOut_39 rfl ?_
      refine rj_cV (rest := []) (sX3_firstTooFull (g := g) (ω := ω) hω μ ((s30.1 + s30.2) - 1)   ) gX3_minutesOut_X3_firstTooFull (rj_lt hω (k := 17) rfl) (rj_sh hω ly_17) rfl rfl hVX3_firstTooFull ⟨Nat.le_of_ble_eq_true rfl, Nat.le_of_ble_eq_true rfl⟩ dX3_minutesOut_40 rfl rfl rfl (Nat.le_of_ble_eq_true rfl) rfl (Nat.le_of_ble_eq_true rfl) rfl ?_
      refine rj_if_eq dX3_minutesOut_43 rfl rfl (fun h4 => ?_) (fun h4 => ?_)
      · skip
        refine rj_iload_n 2 dX3_minutesOut_50 rfl rfl ?_
        refine rj_iconst (v := 2) dX3_minutesOut_51 rfl (by decide) ?_
        refine rj_idiv dX3_minutesOut_52 rfl (by decide) ?_
        refine rj_istore_n (l' := [(2, .int (s30.2 / 2)), (0, .ref (ω.2.2 17)), (1, .int s30.1)]) dX3_minutesOut_53 rfl (rj_bl rfl) rfl ?_
        refine rj_goto dX3_minutesOut_54 rfl ?_
        have e : bX3_minutesOut_30 μ s30 = .inl (s30.1, (s30.2 / 2)) := by unfold bX3_minutesOut_30; rw [if_neg h3]; rw [if_pos h4]; try rfl
        exact rj_sub (l' := [(0, .ref (ω.2.2 17)), (1, .int s30.1), (2, .int (s30.2 / 2))]) [1, 2, 0] rfl (ih (s30.1, (s30.2 / 2)) (by have hz := hqn; rw [e] at hz; exact hz) (by rw [rj_we_l e] at K; exact K))
      · skip
        refine rj_iload_n 1 dX3_minutesOut_46 rfl rfl ?_
        refine rj_iload_n 2 dX3_minutesOut_47 rfl rfl ?_
        refine rj_iadd dX3_minutesOut_48 rfl ?_
        refine rj_istore_n (l' := [(1, .int (s30.1 + s30.2)), (0, .ref (ω.2.2 17)), (2, .int s30.2)]) dX3_minutesOut_49 rfl (rj_bl rfl) rfl ?_
        refine rj_iload_n 2 dX3_minutesOut_50 rfl rfl ?_
        refine rj_iconst (v := 2) dX3_minutesOut_51 rfl (by decide) ?_
        refine rj_idiv dX3_minutesOut_52 rfl (by decide) ?_
        refine rj_istore_n (l' := [(2, .int (s30.2 / 2)), (1, .int (s30.1 + s30.2)), (0, .ref (ω.2.2 17))]) dX3_minutesOut_53 rfl (rj_bl rfl) rfl ?_
        refine rj_goto dX3_minutesOut_54 rfl ?_
        have e : bX3_minutesOut_30 μ s30 = .inl ((s30.1 + s30.2), (s30.2 / 2)) := by unfold bX3_minutesOut_30; rw [if_neg h3]; rw [if_neg h4]; try rfl
        exact rj_sub (l' := [(0, .ref (ω.2.2 17)), (1, .int (s30.1 + s30.2)), (2, .int (s30.2 / 2))]) [2, 1, 0] rfl (ih ((s30.1 + s30.2), (s30.2 / 2)) (by have hz := hqn; rw [e] at hz; exact hz) (by rw [rj_we_l e] at K; exact K))
set_option maxHeartbeats 4000000 in
theorem lX3_minutesOut_30u {g : rj_G} {ω : rj_W} (hω : rj_ok ω) (μ : rj_M)    (h1 : ¬ ((fX11_sumOf μ 20 4) = 0)) (h2 : ¬ ((fX11_sumOf μ 18 3) = 0)) {F : rj_F} : ∀ (r : Nat) (c0 : Int32) (c1 : Int32), rq_we (qX3_minutesOut_30 μ) (bX3_minutesOut_30 μ) r (c0, c1) → (rj_R g RX3 cX3_minutesOut 3 (some .int) wsX3_minutesOut [] (rj_rm 4 0) F 0 ω μ [(0, .ref (ω.2.2 17)), (1, .int ((rj_we (bX3_minutesOut_30 μ) r (c0, c1)).1)), (2, .int ((rj_we (bX3_minutesOut_30 μ) r (c0, c1)).2))] 57 []) → rj_R g RX3 cX3_minutesOut 3 (some .int) wsX3_minutesOut [] (rj_rm 4 0) F 0 ω μ [(0, .ref (ω.2.2 17)), (1, .int c0), (2, .int c1)] 30 [] := fun r c0 c1 => lX3_minutesOut_30 hω μ    h1 h2 r (c0, c1)
def fX3_minutesOut (μ : rj_M) : Int32 := (if (fX11_sumOf μ 20 4) = 0 then 0 else (if (fX11_sumOf μ 18 3) = 0 then (-1) else (rj_we (bX3_minutesOut_30 μ) 15 (0, 8192)).1))
def qX3_minutesOut (μ : rj_M) : Prop := (if (fX11_sumOf μ 20 4) = 0 then True else (if (fX11_sumOf μ 18 3) = 0 then True else (rq_we (qX3_minutesOut_30 μ) (bX3_minutesOut_30 μ) 15 (0, 8192) ∧ True)))
set_option maxHeartbeats 40000000 in
set_option maxRecDepth 100000 in
theorem sX3_minutesOut {g : rj_G} {ω : rj_W} (hω : rj_ok ω) (μ : rj_M)   (hq : qX3_minutesOut μ) : rj_Sp g yX3_minutesOut wsX3_minutesOut (rj_rm 4 0) [.ref (ω.2.2 17)] ω μ (rj_D (.inl (some (.int (fX3_minutesOut μ)))) ω μ) := by
  have hqa := hq
  unfold qX3_minutesOut at hqa
  refine rj_of' (cc := cX3_minutesOut) (nL := 3) (ret := (some .int)) (own := RX3) (l0 := [(0, .ref (ω.2.2 17))]) rfl (by decide +kernel) rfl (Nat.le_of_ble_eq_true rfl) rfl ?_
  refine rj_aload_n 0 dX3_minutesOut_0 rfl rfl ?_
  refine rj_getR (C0 := RX3) (T := TX3) (N := 3) (j := 2) (r := 20) dX3_minutesOut_1 rfl vX3_minutesOut_3 rfl (rj_lt hω (k := 17) rfl) (rj_sh hω ly_17) (by decide) kX3_minutesOut_18 rfl ?_
  refine rj_cSN (rest := []) (sX11_sumOf (g := g) (ω := ω) μ 20 4 (rj_lt hω (k := 20) rfl) (rj_sh hω ly_20) (rj_bl rfl)  ) ggX3_minutesOut_X11_sumOf jX3_minutesOut_29_i jX3_minutesOut_29_s jX3_minutesOut_29_n rfl hSX11_sumOf ⟨Nat.le_of_ble_eq_true rfl, Nat.le_of_ble_eq_true rfl⟩ dX3_minutesOut_4 rfl rfl rfl (Nat.le_of_ble_eq_true rfl) rfl (Nat.le_of_ble_eq_true rfl) rfl ?_
  refine rj_if_ne dX3_minutesOut_7 rfl rfl (fun h1 => ?_) (fun h1 => ?_)
  · have hq1 := hqa; rw [if_neg h1] at hq1
    refine rj_aload_n 0 dX3_minutesOut_12 rfl rfl ?_
    refine rj_getR (C0 := RX3) (T := TX3) (N := 3) (j := 0) (r := 18) dX3_minutesOut_13 rfl vX3_minutesOut_3 rfl (rj_lt hω (k := 17) rfl) (rj_sh hω ly_17) (by decide) kX3_minutesOut_9 rfl ?_
    refine rj_cSN (rest := []) (sX11_sumOf (g := g) (ω := ω) μ 18 3 (rj_lt hω (k := 18) rfl) (rj_sh hω ly_18) (rj_bl rfl)  ) ggX3_minutesOut_X11_sumOf jX3_minutesOut_29_i jX3_minutesOut_29_s jX3_minutesOut_29_n rfl hSX11_sumOf ⟨Nat.le_of_ble_eq_true rfl, Nat.le_of_ble_eq_true rfl⟩ dX3_minutesOut_16 rfl rfl rfl (Nat.le_of_ble_eq_true rfl) rfl (Nat.le_of_ble_eq_true rfl) rfl ?_
    refine rj_if_ne dX3_minutesOut_19 rfl rfl (fun h2 => ?_) (fun h2 => ?_)
    · have hq2 := hq1; rw [if_neg h2] at hq2
      refine rj_iconst (v := 0) dX3_minutesOut_24 rfl (by decide) ?_
      refine rj_istore_n (l' := [(1, .int 0), (0, .ref (ω.2.2 17))]) dX3_minutesOut_25 rfl (rj_bl rfl) rfl ?_
      refine rj_sipush (v := 8192) dX3_minutesOut_26 rfl (by decide) ?_
      refine rj_istore_n (l' := [(2, .int 8192), (1, .int 0), (0, .ref (ω.2.2 17))]) dX3_minutesOut_29 rfl (rj_bl rfl) rfl ?_
      refine rj_sub (l' := [(0, .ref (ω.2.2 17)), (1, .int 0), (2, .int 8192)]) [2, 1, 0] rfl ?_
      refine lX3_minutesOut_30u hω μ    h1 h2 15 0 8192 (hq2).1 ?_
      refine rj_iload_n 1 dX3_minutesOut_57 rfl rfl ?_
      exact rj_iret dX3_minutesOut_58 rfl (Nat.le_of_ble_eq_true rfl) (Nat.le_of_ble_eq_true rfl) ⟨(by unfold fX3_minutesOut; rw [if_neg h1]; rw [if_neg h2]; try rfl), rfl, rfl⟩
    · have hq7 := hq1; rw [if_pos h2] at hq7
      refine rj_iconst (v := (-1)) dX3_minutesOut_22 rfl (by decide) ?_
      exact rj_iret dX3_minutesOut_23 rfl (Nat.le_of_ble_eq_true rfl) (Nat.le_of_ble_eq_true rfl) ⟨(by unfold fX3_minutesOut; rw [if_neg h1]; rw [if_pos h2]; try rfl), rfl, rfl⟩
  · have hq8 := hqa; rw [if_pos h1] at hq8
    refine rj_iconst (v := 0) dX3_minutesOut_10 rfl (by decide) ?_
    exact rj_iret dX3_minutesOut_11 rfl (Nat.le_of_ble_eq_true rfl) (Nat.le_of_ble_eq_true rfl) ⟨(by unfold fX3_minutesOut; rw [if_pos h1]; try rfl), rfl, rfl⟩
theorem hSX10_helpersAt : yX10_helpersAt.cls ≠ "java/lang/invoke/MethodHandle" ∧ yX10_helpersAt.cls ≠ "java/lang/invoke/VarHandle" ∧ (parseMethodDescriptor yX10_helpersAt.desc).map (fun d => d.parameters.length) = some 1 := by decide +kernel
theorem hVX10_helpersAt : yX10_helpersAt.cls = RX10 ∧ yX10_helpersAt.cls ≠ "java/lang/invoke/MethodHandle" ∧ yX10_helpersAt.cls ≠ "java/lang/invoke/VarHandle" ∧ (parseMethodDescriptor yX10_helpersAt.desc).map (fun d => d.parameters.length) = some 1 := by decide +kernel
theorem vX10_helpersAt_10 : ∀ w ∈ u_ws RX10 TX10 4, w ∈ wsX10_helpersAt := by decide +kernel
theorem kX10_helpersAt_15 : Cond.fieldLink RX10 15 (TX10 1).1 (TX10 1).2.1 (TX10 1).2.2.1 ∈ wsX10_helpersAt := by decide +kernel
theorem jX10_helpersAt_43_0 : Cond.methodLink RX10 43 Lib.Math.max.name ∈ wsX10_helpersAt := by decide +kernel
theorem jX10_helpersAt_43_1 : Cond.static Lib.Math.max.name ∈ wsX10_helpersAt := by decide +kernel
theorem jX10_helpersAt_43_2 : Cond.initialized "java/lang/Math" ∈ wsX10_helpersAt := by decide +kernel
theorem jX10_helpersAt_43_3 : Cond.code Lib.Math.max.name Lib.Math.max.code 2 (some .int) ∈ wsX10_helpersAt := by decide +kernel
theorem kX10_helpersAt_19 : Cond.fieldLink RX10 19 (TX10 2).1 (TX10 2).2.1 (TX10 2).2.2.1 ∈ wsX10_helpersAt := by decide +kernel
def bX10_helpersAt_18 (μ : rj_M) (a0 : Int32) (s18 : Int32 × Int32) : (Int32 × Int32) ⊕ (Int32 × Int32) := (if a0 < s18.2 then .inr (s18.1, s18.2) else (if 24 ≤ s18.2 then .inr (s18.1, s18.2) else .inl ((s18.1 + (μ.1 28 s18.2.toNatClampNeg)), s18.2 + 1)))
def qX10_helpersAt_18 (μ : rj_M) (a0 : Int32) (s18 : Int32 × Int32) : Prop := (if a0 < s18.2 then True else (if 24 ≤ s18.2 then True else (vp_in s18.2 24 ∧ True)))
set_option maxHeartbeats 4000000 in
set_option maxRecDepth 100000 in
theorem lX10_helpersAt_18 {g : rj_G} {ω : rj_W} (hω : rj_ok ω) (μ : rj_M) (a0 : Int32)     {F : rj_F} : ∀ (r : Nat) (s : Int32 × Int32), rq_we (qX10_helpersAt_18 μ a0) (bX10_helpersAt_18 μ a0) r s → (rj_R g RX10 cX10_helpersAt 5 (some .int) wsX10_helpersAt [] (rj_rm 1 0) F 0 ω μ [(0, .ref (ω.2.2 26)), (1, .int a0), (2, .int ((rj_we (bX10_helpersAt_18 μ a0) r s).1)), (3, .int (if 0 < ((a0 - (μ.1 26 1)) + 1) then ((a0 - (μ.1 26 1)) + 1) else 0)), (4, .int ((rj_we (bX10_helpersAt_18 μ a0) r s).2))] 47 []) → rj_R g RX10 cX10_helpersAt 5 (some .int) wsX10_helpersAt [] (rj_rm 1 0) F 0 ω μ [(0, .ref (ω.2.2 26)), (1, .int a0), (2, .int s.1), (3, .int (if 0 < ((a0 - (μ.1 26 1)) + 1) then ((a0 - (μ.1 26 1)) + 1) else 0)), (4, .int s.2)] 18 [] := by
  intro r
  induction r with
  | zero =>
    intro s hq0 K
    exact hq0.elim
  | succ r ih =>
    intro s18 hq0 K
    rw [rq_we_s] at hq0
    have hqa := hq0.1
    have hqn := hq0.2
    unfold qX10_helpersAt_18 at hqa
    refine rj_iload 4 dX10_helpersAt_18 rfl rfl ?_
    refine rj_iload_n 1 dX10_helpersAt_20 rfl rfl ?_
    refine rj_icmp_gt dX10_helpersAt_21 rfl rfl (fun h1 => ?_) (fun h1 => ?_)
    · have hq1 := hqa; rw [if_pos h1] at hq1
      have e : bX10_helpersAt_18 μ a0 s18 = .inr (s18.1, s18.2) := by unfold bX10_helpersAt_18; rw [if_pos h1]; try rfl
      exact rj_sub (l' := [(0, .ref (ω.2.2 26)), (1, .int a0), (2, .int s18.1), (3, .int (if 0 < ((a0 - (μ.1 26 1)) + 1) then ((a0 - (μ.1 26 1)) + 1) else 0)), (4, .int s18.2)]) [0, 1, 2, 3, 4] rfl (by rw [rj_we_r e] at K; exact K)
    · have hq2 := hqa; rw [if_neg h1] at hq2
      refine rj_iload 4 dX10_helpersAt_24 rfl rfl ?_
      refine rj_bipush (v := 24) dX10_helpersAt_26 rfl (by decide) ?_
      refine rj_icmp_ge dX10_helpersAt_28 rfl rfl (fun h2 => ?_) (fun h2 => ?_)
      · have hq3 := hq2; rw [if_pos h2] at hq3
        have e : bX10_helpersAt_18 μ a0 s18 = .inr (s18.1, s18.2) := by unfold bX10_helpersAt_18; rw [if_neg h1]; rw [if_pos h2]; try rfl
        exact rj_sub (l' := [(0, .ref (ω.2.2 26)), (1, .int a0), (2, .int s18.1), (3, .int (if 0 < ((a0 - (μ.1 26 1)) + 1) then ((a0 - (μ.1 26 1)) + 1) else 0)), (4, .int s18.2)]) [0, 1, 2, 3, 4] rfl (by rw [rj_we_r e] at K; exact K)
      · have hq4 := hq2; rw [if_neg h2] at hq4
        refine rj_iload_n 2 dX10_helpersAt_31 rfl rfl ?_
        refine rj_aload_n 0 dX10_helpersAt_32 rfl rfl ?_
        refine rj_getR (C0 := RX10) (T := TX10) (N := 4) (j := 2) (r := 28) dX10_helpersAt_33 rfl vX10_helpersAt_10 rfl (rj_lt hω (k := 26) rfl) (rj_sh hω ly_26) (by decide) kX10_helpersAt_19 rfl ?_
        refine rj_iload 4 dX10_helpersAt_36 rfl rfl ?_
        refine rj_iald dX10_helpersAt_38 rfl (rj_lt hω (k := 28) rfl) (rj_sh hω ly_28) (hq4).1 ?_
        refine rj_iadd dX10_helpersAt_39 rfl ?_
        refine rj_istore_n (l' := [(2, .int (s18.1 + (μ.1 28 s18.2.toNatClampNeg))), (0, .ref (ω.2.2 26)), (1, .int a0), (3, .int (if 0 < ((a0 - (μ.1 26 1)) + 1) then ((a0 - (μ.1 26 1)) + 1) else 0)), (4, .int s18.2)]) dX10_helpersAt_40 rfl (rj_bl rfl) rfl ?_
        refine rj_iinc (v := s18.2 + 1) (l' := [(4, .int (s18.2 + 1)), (2, .int (s18.1 + (μ.1 28 s18.2.toNatClampNeg))), (0, .ref (ω.2.2 26)), (1, .int a0), (3, .int (if 0 < ((a0 - (μ.1 26 1)) + 1) then ((a0 - (μ.1 26 1)) + 1) else 0))]) 4 dX10_helpersAt_41 rfl rfl rfl (rj_bl rfl) rfl ?_
        refine rj_goto dX10_helpersAt_44 rfl ?_
        have e : bX10_helpersAt_18 μ a0 s18 = .inl ((s18.1 + (μ.1 28 s18.2.toNatClampNeg)), s18.2 + 1) := by unfold bX10_helpersAt_18; rw [if_neg h1]; rw [if_neg h2]; try rfl
        exact rj_sub (l' := [(0, .ref (ω.2.2 26)), (1, .int a0), (2, .int (s18.1 + (μ.1 28 s18.2.toNatClampNeg))), (3, .int (if 0 < ((a0 - (μ.1 26 1)) + 1) then ((a0 - (μ.1 26 1)) + 1) else 0)), (4, .int (s18.2 + 1))]) [2, 3, 1, 4, 0] rfl (ih ((s18.1 + (μ.1 28 s18.2.toNatClampNeg)), s18.2 + 1) (by have hz := hqn; rw [e] at hz; exact hz) (by rw [rj_we_l e] at K; exact K))
set_option maxHeartbeats 4000000 in
theorem lX10_helpersAt_18u {g : rj_G} {ω : rj_W} (hω : rj_ok ω) (μ : rj_M) (a0 : Int32)     {F : rj_F} : ∀ (r : Nat) (c0 : Int32) (c1 : Int32), rq_we (qX10_helpersAt_18 μ a0) (bX10_helpersAt_18 μ a0) r (c0, c1) → (rj_R g RX10 cX10_helpersAt 5 (some .int) wsX10_helpersAt [] (rj_rm 1 0) F 0 ω μ [(0, .ref (ω.2.2 26)), (1, .int a0), (2, .int ((rj_we (bX10_helpersAt_18 μ a0) r (c0, c1)).1)), (3, .int (if 0 < ((a0 - (μ.1 26 1)) + 1) then ((a0 - (μ.1 26 1)) + 1) else 0)), (4, .int ((rj_we (bX10_helpersAt_18 μ a0) r (c0, c1)).2))] 47 []) → rj_R g RX10 cX10_helpersAt 5 (some .int) wsX10_helpersAt [] (rj_rm 1 0) F 0 ω μ [(0, .ref (ω.2.2 26)), (1, .int a0), (2, .int c0), (3, .int (if 0 < ((a0 - (μ.1 26 1)) + 1) then ((a0 - (μ.1 26 1)) + 1) else 0)), (4, .int c1)] 18 [] := fun r c0 c1 => lX10_helpersAt_18 hω μ a0     r (c0, c1)
def fX10_helpersAt (μ : rj_M) (a0 : Int32) : Int32 := (rj_we (bX10_helpersAt_18 μ a0) 25 (0, (if 0 < ((a0 - (μ.1 26 1)) + 1) then ((a0 - (μ.1 26 1)) + 1) else 0))).1
def qX10_helpersAt (μ : rj_M) (a0 : Int32) : Prop := (rq_we (qX10_helpersAt_18 μ a0) (bX10_helpersAt_18 μ a0) 25 (0, (if 0 < ((a0 - (μ.1 26 1)) + 1) then ((a0 - (μ.1 26 1)) + 1) else 0)) ∧ True)
set_option maxHeartbeats 40000000 in
set_option maxRecDepth 100000 in
theorem sX10_helpersAt {g : rj_G} {ω : rj_W} (hω : rj_ok ω) (μ : rj_M) (a0 : Int32)   (hq : qX10_helpersAt μ a0) : rj_Sp g yX10_helpersAt wsX10_helpersAt (rj_rm 1 0) [.ref (ω.2.2 26), .int a0] ω μ (rj_D (.inl (some (.int (fX10_helpersAt μ a0)))) ω μ) := by
  have hqa := hq
  unfold qX10_helpersAt at hqa
  refine rj_of' (cc := cX10_helpersAt) (nL := 5) (ret := (some .int)) (own := RX10) (l0 := [(0, .ref (ω.2.2 26)), (1, .int a0)]) rfl (by decide +kernel) rfl (Nat.le_of_ble_eq_true rfl) rfl ?_
  refine rj_iconst (v := 0) dX10_helpersAt_0 rfl (by decide) ?_
  refine rj_istore_n (l' := [(2, .int 0), (0, .ref (ω.2.2 26)), (1, .int a0)]) dX10_helpersAt_1 rfl (rj_bl rfl) rfl ?_
  refine rj_iconst (v := 0) dX10_helpersAt_2 rfl (by decide) ?_
  refine rj_iload_n 2 dX10_helpersAt_3 rfl rfl ?_
  refine rj_aload_n 1 dX10_helpersAt_4 rfl rfl ?_
  refine rj_getI (C0 := RX10) (T := TX10) (N := 4) (j := 1) dX10_helpersAt_5 rfl vX10_helpersAt_10 rfl (rj_lt hω (k := 26) rfl) (rj_sh hω ly_26) (by decide) kX10_helpersAt_15 rfl ?_
  refine rj_isub dX10_helpersAt_8 rfl ?_
  refine rj_iconst (v := 1) dX10_helpersAt_9 rfl (by decide) ?_
  refine rj_iadd dX10_helpersAt_10 rfl ?_
  refine rj_mmax dX10_helpersAt_11 rfl jX10_helpersAt_43_0 jX10_helpersAt_43_1 jX10_helpersAt_43_2 jX10_helpersAt_43_3 (Nat.le_of_ble_eq_true rfl) (Nat.le_of_ble_eq_true rfl) (Nat.le_of_ble_eq_true rfl) (Nat.le_of_ble_eq_true rfl) ?_
  refine rj_istore_n (l' := [(3, .int (if 0 < ((a0 - (μ.1 26 1)) + 1) then ((a0 - (μ.1 26 1)) + 1) else 0)), (2, .int 0), (0, .ref (ω.2.2 26)), (1, .int a0)]) dX10_helpersAt_14 rfl (rj_bl rfl) rfl ?_
  refine rj_iload_n 0 dX10_helpersAt_15 rfl rfl ?_
  refine rj_istore (l' := [(4, .int (if 0 < ((a0 - (μ.1 26 1)) + 1) then ((a0 - (μ.1 26 1)) + 1) else 0)), (3, .int (if 0 < ((a0 - (μ.1 26 1)) + 1) then ((a0 - (μ.1 26 1)) + 1) else 0)), (2, .int 0), (0, .ref (ω.2.2 26)), (1, .int a0)]) dX10_helpersAt_16 rfl (rj_bl rfl) rfl ?_
  refine rj_sub (l' := [(0, .ref (ω.2.2 26)), (1, .int a0), (2, .int 0), (3, .int (if 0 < ((a0 - (μ.1 26 1)) + 1) then ((a0 - (μ.1 26 1)) + 1) else 0)), (4, .int (if 0 < ((a0 - (μ.1 26 1)) + 1) then ((a0 - (μ.1 26 1)) + 1) else 0))]) [3, 4, 2, 1, 0] rfl ?_
  refine lX10_helpersAt_18u hω μ a0     25 0 (if 0 < ((a0 - (μ.1 26 1)) + 1) then ((a0 - (μ.1 26 1)) + 1) else 0) (hqa).1 ?_
  refine rj_iload_n 2 dX10_helpersAt_47 rfl rfl ?_
  exact rj_iret dX10_helpersAt_48 rfl (Nat.le_of_ble_eq_true rfl) (Nat.le_of_ble_eq_true rfl) ⟨(by unfold fX10_helpersAt; rfl), rfl, rfl⟩
theorem hSX10_planStarts : yX10_planStarts.cls ≠ "java/lang/invoke/MethodHandle" ∧ yX10_planStarts.cls ≠ "java/lang/invoke/VarHandle" ∧ (parseMethodDescriptor yX10_planStarts.desc).map (fun d => d.parameters.length) = some 0 := by decide +kernel
theorem hVX10_planStarts : yX10_planStarts.cls = RX10 ∧ yX10_planStarts.cls ≠ "java/lang/invoke/MethodHandle" ∧ yX10_planStarts.cls ≠ "java/lang/invoke/VarHandle" ∧ (parseMethodDescriptor yX10_planStarts.desc).map (fun d => d.parameters.length) = some 0 := by decide +kernel
theorem vX10_planStarts_10 : ∀ w ∈ u_ws RX10 TX10 4, w ∈ wsX10_planStarts := by decide +kernel
theorem kX10_planStarts_19 : Cond.fieldLink RX10 19 (TX10 2).1 (TX10 2).2.1 (TX10 2).2.2.1 ∈ wsX10_planStarts := by decide +kernel
theorem jX10_planStarts_29_i : Cond.initialized yX11_fillRow.cls ∈ wsX10_planStarts := by decide +kernel
theorem jX10_planStarts_29_s : Cond.static yX11_fillRow ∈ wsX10_planStarts := by decide +kernel
theorem jX10_planStarts_29_n : (RX10, 29, yX11_fillRow, "Festivalgrounds") ∈ rj_nw := by decide +kernel
theorem kX10_planStarts_9 : Cond.fieldLink RX10 9 (TX10 0).1 (TX10 0).2.1 (TX10 0).2.2.1 ∈ wsX10_planStarts := by decide +kernel
theorem kX10_planStarts_15 : Cond.fieldLink RX10 15 (TX10 1).1 (TX10 1).2.1 (TX10 1).2.2.1 ∈ wsX10_planStarts := by decide +kernel
theorem jX10_planStarts_37_0 : Cond.methodLink RX10 37 Lib.Math.min.name ∈ wsX10_planStarts := by decide +kernel
theorem jX10_planStarts_37_1 : Cond.static Lib.Math.min.name ∈ wsX10_planStarts := by decide +kernel
theorem jX10_planStarts_37_2 : Cond.initialized "java/lang/Math" ∈ wsX10_planStarts := by decide +kernel
theorem jX10_planStarts_37_3 : Cond.code Lib.Math.min.name Lib.Math.min.code 2 (some .int) ∈ wsX10_planStarts := by decide +kernel
def bX10_planStarts_10 (μ : rj_M) (j10 : Nat) (s10 : rj_M) : rj_M := (if ((s10.1 27 (nI j10).toNatClampNeg) - (fX10_helpersAt s10 (nI j10))) ≤ 0 then s10 else (if (if (24 - (s10.1 26 1)) < nI j10 then (24 - (s10.1 26 1)) else nI j10) < 0 then s10 else (rj_pi s10 28 (if (24 - (s10.1 26 1)) < nI j10 then (24 - (s10.1 26 1)) else nI j10).toNatClampNeg ((s10.1 28 (if (24 - (s10.1 26 1)) < nI j10 then (24 - (s10.1 26 1)) else nI j10).toNatClampNeg) + ((s10.1 27 (nI j10).toNatClampNeg) - (fX10_helpersAt s10 (nI j10)))))))
def qX10_planStarts_10 (μ : rj_M) (j10 : Nat) (s10 : rj_M) : Prop := (qX10_helpersAt s10 (nI j10) ∧ (if ((s10.1 27 (nI j10).toNatClampNeg) - (fX10_helpersAt s10 (nI j10))) ≤ 0 then True else (if (if (24 - (s10.1 26 1)) < nI j10 then (24 - (s10.1 26 1)) else nI j10) < 0 then True else (vp_in (if (24 - (s10.1 26 1)) < nI j10 then (24 - (s10.1 26 1)) else nI j10) 24 ∧ vp_in (if (24 - (s10.1 26 1)) < nI j10 then (24 - (s10.1 26 1)) else nI j10) 24 ∧ True))))
set_option maxHeartbeats 4000000 in
set_option maxRecDepth 100000 in
theorem lX10_planStarts_10 {g : rj_G} {ω : rj_W} (hω : rj_ok ω) (μ : rj_M)      {F : rj_F} : ∀ (r j : Nat) (s : rj_M), j + r = 24 → rq_fo (qX10_planStarts_10 μ) (bX10_planStarts_10 μ) r j s → (rj_R g RX10 cX10_planStarts 4 none wsX10_planStarts [] (rj_rm 2 0) F 0 ω (rj_fo (bX10_planStarts_10 μ) r j s) [(0, .ref (ω.2.2 26)), (1, .int (nI 24))] 65 []) → rj_R g RX10 cX10_planStarts 4 none wsX10_planStarts [] (rj_rm 2 0) F 0 ω s [(0, .ref (ω.2.2 26)), (1, .int (nI j))] 10 [] := by
  intro r
  induction r with
  | zero =>
    intro j s hj hq0 K
    have e0 : j = 24 := by omega
    have hge : 24 ≤ nI j := by
      rw [e0]
      exact Int32.le_refl _
    refine rj_iload_n 1 dX10_planStarts_10 rfl rfl ?_
    refine rj_bipush (v := 24) dX10_planStarts_11 rfl (by decide) ?_
    refine rj_icmp_ge dX10_planStarts_13 rfl rfl (fun h4 => ?_) (fun h4 => ?_)
    · have e1 : nI j = nI 24 := by rw [e0]
      rw [e1]
      exact K
    · exact absurd hge h4
  | succ r ih =>
    intro j10 s10 hj hq0 K
    have hl10 : j10 < 24 := by omega
    have hg10 : ¬ 24 ≤ nI j10 := nI_ge hl10 (rj_bl rfl)
    rw [rq_fo_s] at hq0
    have hqa := hq0.1
    have hqn := hq0.2
    unfold qX10_planStarts_10 at hqa
    refine rj_iload_n 1 dX10_planStarts_10 rfl rfl ?_
    refine rj_bipush (v := 24) dX10_planStarts_11 rfl (by decide) ?_
    refine rj_icmp_ge dX10_planStarts_13 rfl rfl (fun h1 => ?_) (fun h1 => ?_)
    · exact absurd h1 hg10
    · refine rj_aload_n 0 dX10_planStarts_16 rfl rfl ?_
      refine rj_getR (C0 := RX10) (T := TX10) (N := 4) (j := 0) (r := 27) dX10_planStarts_17 rfl vX10_planStarts_10 rfl (rj_lt hω (k := 26) rfl) (rj_sh hω ly_26) (by decide) kX10_planStarts_9 rfl ?_
      refine rj_iload_n 1 dX10_planStarts_20 rfl rfl ?_
      refine rj_iald dX10_planStarts_21 rfl (rj_lt hω (k := 27) rfl) (rj_sh hω ly_27) (vp_in_nI hl10 (rj_bl rfl)) ?_
      refine rj_aload_n 0 dX10_planStarts_22 rfl rfl ?_
      refine rj_iload_n 1 dX10_planStarts_23 rfl rfl ?_
      refine rj_cV (rest := [.int (s10.1 27 (nI j10).toNatClampNeg)]) (sX10_helpersAt (g := g) (ω := ω) hω s10 (nI j10)   (hqa).1) gX10_planStarts_X10_helpersAt (rj_lt hω (k := 26) rfl) (rj_sh hω ly_26) rfl rfl hVX10_helpersAt ⟨Nat.le_of_ble_eq_true rfl, Nat.le_of_ble_eq_true rfl⟩ dX10_planStarts_24 rfl rfl rfl (Nat.le_of_ble_eq_true rfl) rfl (Nat.le_of_ble_eq_true rfl) rfl ?_
      refine rj_isub dX10_planStarts_27 rfl ?_
      refine rj_istore_n (l' := [(2, .int ((s10.1 27 (nI j10).toNatClampNeg) - (fX10_helpersAt s10 (nI j10)))), (0, .ref (ω.2.2 26)), (1, .int (nI j10))]) dX10_planStarts_28 rfl (rj_bl rfl) rfl ?_
      refine rj_iload_n 2 dX10_planStarts_29 rfl rfl ?_
      refine rj_bipush (v := 24) dX10_planStarts_30 rfl (by decide) ?_
      refine rj_aload_n 1 dX10_planStarts_32 rfl rfl ?_
      refine rj_getI (C0 := RX10) (T := TX10) (N := 4) (j := 1) dX10_planStarts_33 rfl vX10_planStarts_10 rfl (rj_lt hω (k := 26) rfl) (rj_sh hω ly_26) (by decide) kX10_planStarts_15 rfl ?_
      refine rj_isub dX10_planStarts_36 rfl ?_
      refine rj_mmin dX10_planStarts_37 rfl jX10_planStarts_37_0 jX10_planStarts_37_1 jX10_planStarts_37_2 jX10_planStarts_37_3 (Nat.le_of_ble_eq_true rfl) (Nat.le_of_ble_eq_true rfl) (Nat.le_of_ble_eq_true rfl) (Nat.le_of_ble_eq_true rfl) ?_
      refine rj_istore_n (l' := [(3, .int (if (24 - (s10.1 26 1)) < nI j10 then (24 - (s10.1 26 1)) else nI j10)), (2, .int ((s10.1 27 (nI j10).toNatClampNeg) - (fX10_helpersAt s10 (nI j10)))), (0, .ref (ω.2.2 26)), (1, .int (nI j10))]) dX10_planStarts_40 rfl (rj_bl rfl) rfl ?_
      refine rj_iload_n 1 dX10_planStarts_41 rfl rfl ?_
      refine rj_if_le dX10_planStarts_42 rfl rfl (fun h2 => ?_) (fun h2 => ?_)
      · have hq1 := (hqa).2; rw [if_pos h2] at hq1
        refine rj_iinc (v := nI (j10 + 1)) (l' := [(1, .int (nI (j10 + 1))), (3, .int (if (24 - (s10.1 26 1)) < nI j10 then (24 - (s10.1 26 1)) else nI j10)), (2, .int ((s10.1 27 (nI j10).toNatClampNeg) - (fX10_helpersAt s10 (nI j10)))), (0, .ref (ω.2.2 26))]) 3 dX10_planStarts_59 rfl rfl (nI_succ j10).symm (rj_bl rfl) rfl ?_
        refine rj_goto dX10_planStarts_62 rfl ?_
        have e : bX10_planStarts_10 μ j10 s10 = s10 := by unfold bX10_planStarts_10; rw [if_pos h2]; try rfl
        exact rj_sub (l' := [(0, .ref (ω.2.2 26)), (1, .int (nI (j10 + 1)))]) [3, 0] rfl (ih (j10 + 1) s10 (by omega) (by have hz := hqn; rw [e] at hz; exact hz) (by rw [rj_fo_s, e] at K; exact K))
      · have hq2 := (hqa).2; rw [if_neg h2] at hq2
        refine rj_iload_n 0 dX10_planStarts_45 rfl rfl ?_
        refine rj_if_lt dX10_planStarts_46 rfl rfl (fun h3 => ?_) (fun h3 => ?_)
        · have hq3 := hq2; rw [if_pos h3] at hq3
          refine rj_iinc (v := nI (j10 + 1)) (l' := [(1, .int (nI (j10 + 1))), (3, .int (if (24 - (s10.1 26 1)) < nI j10 then (24 - (s10.1 26 1)) else nI j10)), (2, .int ((s10.1 27 (nI j10).toNatClampNeg) - (fX10_helpersAt s10 (nI j10)))), (0, .ref (ω.2.2 26))]) 3 dX10_planStarts_59 rfl rfl (nI_succ j10).symm (rj_bl rfl) rfl ?_
          refine rj_goto dX10_planStarts_62 rfl ?_
          have e : bX10_planStarts_10 μ j10 s10 = s10 := by unfold bX10_planStarts_10; rw [if_neg h2]; rw [if_pos h3]; try rfl
          exact rj_sub (l' := [(0, .ref (ω.2.2 26)), (1, .int (nI (j10 + 1)))]) [3, 0] rfl (ih (j10 + 1) s10 (by omega) (by have hz := hqn; rw [e] at hz; exact hz) (by rw [rj_fo_s, e] at K; exact K))
        · have hq4 := hq2; rw [if_neg h3] at hq4
          refine rj_aload_n 2 dX10_planStarts_49 rfl rfl ?_
          refine rj_getR (C0 := RX10) (T := TX10) (N := 4) (j := 2) (r := 28) dX10_planStarts_50 rfl vX10_planStarts_10 rfl (rj_lt hω (k := 26) rfl) (rj_sh hω ly_26) (by decide) kX10_planStarts_19 rfl ?_
          refine rj_iload_n 0 dX10_planStarts_53 rfl rfl ?_
          refine rj_dup2 dX10_planStarts_54 rfl rfl rfl ?_
          refine rj_iald dX10_planStarts_55 rfl (rj_lt hω (k := 28) rfl) (rj_sh hω ly_28) (hq4).1 ?_
          refine rj_iload_n 1 dX10_planStarts_56 rfl rfl ?_
          refine rj_iadd dX10_planStarts_57 rfl ?_
          refine rj_iast dX10_planStarts_58 rfl (rj_lt hω (k := 28) rfl) (rj_sh hω ly_28) ((hq4).2).1 ?_
          refine rj_iinc (v := nI (j10 + 1)) (l' := [(1, .int (nI (j10 + 1))), (3, .int (if (24 - (s10.1 26 1)) < nI j10 then (24 - (s10.1 26 1)) else nI j10)), (2, .int ((s10.1 27 (nI j10).toNatClampNeg) - (fX10_helpersAt s10 (nI j10)))), (0, .ref (ω.2.2 26))]) 3 dX10_planStarts_59 rfl rfl (nI_succ j10).symm (rj_bl rfl) rfl ?_
          refine rj_goto dX10_planStarts_62 rfl ?_
          have e : bX10_planStarts_10 μ j10 s10 = (rj_pi s10 28 (if (24 - (s10.1 26 1)) < nI j10 then (24 - (s10.1 26 1)) else nI j10).toNatClampNeg ((s10.1 28 (if (24 - (s10.1 26 1)) < nI j10 then (24 - (s10.1 26 1)) else nI j10).toNatClampNeg) + ((s10.1 27 (nI j10).toNatClampNeg) - (fX10_helpersAt s10 (nI j10))))) := by unfold bX10_planStarts_10; rw [if_neg h2]; rw [if_neg h3]; try rfl
          exact rj_sub (l' := [(0, .ref (ω.2.2 26)), (1, .int (nI (j10 + 1)))]) [3, 0] rfl (ih (j10 + 1) (rj_pi s10 28 (if (24 - (s10.1 26 1)) < nI j10 then (24 - (s10.1 26 1)) else nI j10).toNatClampNeg ((s10.1 28 (if (24 - (s10.1 26 1)) < nI j10 then (24 - (s10.1 26 1)) else nI j10).toNatClampNeg) + ((s10.1 27 (nI j10).toNatClampNeg) - (fX10_helpersAt s10 (nI j10))))) (by omega) (by have hz := hqn; rw [e] at hz; exact hz) (by rw [rj_fo_s, e] at K; exact K))
def mX10_planStarts (μ : rj_M) : rj_M := (rj_fo (bX10_planStarts_10 μ) 24 0 (mX11_fillRow μ 28 24 0))
def qX10_planStarts (μ : rj_M) : Prop := (rq_fo (qX10_planStarts_10 μ) (bX10_planStarts_10 μ) 24 0 (mX11_fillRow μ 28 24 0) ∧ True)
set_option maxHeartbeats 40000000 in
set_option maxRecDepth 100000 in
theorem sX10_planStarts {g : rj_G} {ω : rj_W} (hω : rj_ok ω) (μ : rj_M)   (hq : qX10_planStarts μ) : rj_Sp g yX10_planStarts wsX10_planStarts (rj_rm 2 0) [.ref (ω.2.2 26)] ω μ (rj_D (.inl none) ω (mX10_planStarts μ)) := by
  have hqa := hq
  unfold qX10_planStarts at hqa
  refine rj_of' (cc := cX10_planStarts) (nL := 4) (ret := none) (own := RX10) (l0 := [(0, .ref (ω.2.2 26))]) rfl (by decide +kernel) rfl (Nat.le_of_ble_eq_true rfl) rfl ?_
  refine rj_aload_n 0 dX10_planStarts_0 rfl rfl ?_
  refine rj_getR (C0 := RX10) (T := TX10) (N := 4) (j := 2) (r := 28) dX10_planStarts_1 rfl vX10_planStarts_10 rfl (rj_lt hω (k := 26) rfl) (rj_sh hω ly_26) (by decide) kX10_planStarts_19 rfl ?_
  refine rj_iconst (v := 0) dX10_planStarts_4 rfl (by decide) ?_
  refine rj_cSN (rest := []) (sX11_fillRow (g := g) (ω := ω) μ 28 24 0 (rj_lt hω (k := 28) rfl) (rj_sh hω ly_28) (rj_bl rfl)  ) ggX10_planStarts_X11_fillRow jX10_planStarts_29_i jX10_planStarts_29_s jX10_planStarts_29_n rfl hSX11_fillRow ⟨Nat.le_of_ble_eq_true rfl, Nat.le_of_ble_eq_true rfl⟩ dX10_planStarts_5 rfl rfl rfl (Nat.le_of_ble_eq_true rfl) rfl (Nat.le_of_ble_eq_true rfl) rfl ?_
  refine rj_iconst (v := 0) dX10_planStarts_8 rfl (by decide) ?_
  refine rj_istore_n (l' := [(1, .int 0), (0, .ref (ω.2.2 26))]) dX10_planStarts_9 rfl (rj_bl rfl) rfl ?_
  refine rj_sub (l' := [(0, .ref (ω.2.2 26)), (1, .int (nI 0))]) [1, 0] rfl ?_
  refine lX10_planStarts_10 hω μ      24 0 (mX11_fillRow μ 28 24 0) rfl (hqa).1 ?_
  exact rj_vret dX10_planStarts_65 rfl (Nat.le_of_ble_eq_true rfl) (Nat.le_of_ble_eq_true rfl) ⟨rfl, rfl, (by unfold mX10_planStarts; rfl)⟩
theorem hSX11_outBy : yX11_outBy.cls ≠ "java/lang/invoke/MethodHandle" ∧ yX11_outBy.cls ≠ "java/lang/invoke/VarHandle" ∧ (parseMethodDescriptor yX11_outBy.desc).map (fun d => d.parameters.length) = some 0 := by decide +kernel
theorem hVX11_outBy : yX11_outBy.cls = RX11 ∧ yX11_outBy.cls ≠ "java/lang/invoke/MethodHandle" ∧ yX11_outBy.cls ≠ "java/lang/invoke/VarHandle" ∧ (parseMethodDescriptor yX11_outBy.desc).map (fun d => d.parameters.length) = some 0 := by decide +kernel
theorem vX11_outBy_11 : ∀ w ∈ u_ws RX11 TX11 6, w ∈ wsX11_outBy := by decide +kernel
theorem kX11_outBy_12 : Cond.fieldLink RX11 12 (TX11 0).1 (TX11 0).2.1 (TX11 0).2.2.1 ∈ wsX11_outBy := by decide +kernel
theorem vX11_outBy_5 : ∀ w ∈ u_ws RX5 TX5 8, w ∈ wsX11_outBy := by decide +kernel
theorem kX11_outBy_135 : Cond.fieldLink RX11 135 (TX5 3).1 (TX5 3).2.1 (TX5 3).2.2.1 ∈ wsX11_outBy := by decide +kernel
def fX11_outBy (μ : rj_M) : Int32 := (fX3_minutesOut μ)
def qX11_outBy (μ : rj_M) : Prop := (qX3_minutesOut μ ∧ True)
set_option maxHeartbeats 40000000 in
set_option maxRecDepth 100000 in
theorem sX11_outBy {g : rj_G} {ω : rj_W} (hω : rj_ok ω) (μ : rj_M)   (hq : qX11_outBy μ) : rj_Sp g yX11_outBy wsX11_outBy (rj_rm 5 0) [.ref (ω.2.2 0)] ω μ (rj_D (.inl (some (.int (fX11_outBy μ)))) ω μ) := by
  have hqa := hq
  unfold qX11_outBy at hqa
  refine rj_of' (cc := cX11_outBy) (nL := 1) (ret := (some .int)) (own := RX11) (l0 := [(0, .ref (ω.2.2 0))]) rfl (by decide +kernel) rfl (Nat.le_of_ble_eq_true rfl) rfl ?_
  refine rj_aload_n 0 dX11_outBy_0 rfl rfl ?_
  refine rj_getR (C0 := RX11) (T := TX11) (N := 6) (j := 0) (r := 1) dX11_outBy_1 rfl vX11_outBy_11 rfl (rj_lt hω (k := 0) rfl) (rj_sh hω ly_0) (by decide) kX11_outBy_12 rfl ?_
  refine rj_getR (C0 := RX5) (T := TX5) (N := 8) (j := 3) (r := 17) dX11_outBy_4 rfl vX11_outBy_5 rfl (rj_lt hω (k := 1) rfl) (rj_sh hω ly_1) (by decide) kX11_outBy_135 rfl ?_
  refine rj_cV (rest := []) (sX3_minutesOut (g := g) (ω := ω) hω μ   (hqa).1) gX11_outBy_X3_minutesOut (rj_lt hω (k := 17) rfl) (rj_sh hω ly_17) rfl rfl hVX3_minutesOut ⟨Nat.le_of_ble_eq_true rfl, Nat.le_of_ble_eq_true rfl⟩ dX11_outBy_7 rfl rfl rfl (Nat.le_of_ble_eq_true rfl) rfl (Nat.le_of_ble_eq_true rfl) rfl ?_
  exact rj_iret dX11_outBy_10 rfl (Nat.le_of_ble_eq_true rfl) (Nat.le_of_ble_eq_true rfl) ⟨(by unfold fX11_outBy; rfl), rfl, rfl⟩
theorem hSX11_cut : yX11_cut.cls ≠ "java/lang/invoke/MethodHandle" ∧ yX11_cut.cls ≠ "java/lang/invoke/VarHandle" ∧ (parseMethodDescriptor yX11_cut.desc).map (fun d => d.parameters.length) = some 0 := by decide +kernel
theorem hVX11_cut : yX11_cut.cls = RX11 ∧ yX11_cut.cls ≠ "java/lang/invoke/MethodHandle" ∧ yX11_cut.cls ≠ "java/lang/invoke/VarHandle" ∧ (parseMethodDescriptor yX11_cut.desc).map (fun d => d.parameters.length) = some 0 := by decide +kernel
theorem vX11_cut_11 : ∀ w ∈ u_ws RX11 TX11 6, w ∈ wsX11_cut := by decide +kernel
theorem kX11_cut_12 : Cond.fieldLink RX11 12 (TX11 0).1 (TX11 0).2.1 (TX11 0).2.2.1 ∈ wsX11_cut := by decide +kernel
theorem vX11_cut_5 : ∀ w ∈ u_ws RX5 TX5 8, w ∈ wsX11_cut := by decide +kernel
theorem kX11_cut_135 : Cond.fieldLink RX11 135 (TX5 3).1 (TX5 3).2.1 (TX5 3).2.2.1 ∈ wsX11_cut := by decide +kernel
def fX11_cut (μ : rj_M) : Int32 := (if 0 < (fX3_minutesOut μ) then (fX3_firstTooFull μ ((fX3_minutesOut μ) - 1)) else 0)
def qX11_cut (μ : rj_M) : Prop := (qX3_minutesOut μ ∧ True)
set_option maxHeartbeats 40000000 in
set_option maxRecDepth 100000 in
theorem sX11_cut {g : rj_G} {ω : rj_W} (hω : rj_ok ω) (μ : rj_M)   (hq : qX11_cut μ) : rj_Sp g yX11_cut wsX11_cut (rj_rm 5 0) [.ref (ω.2.2 0)] ω μ (rj_D (.inl (some (.int (fX11_cut μ)))) ω μ) := by
  have hqa := hq
  unfold qX11_cut at hqa
  refine rj_of' (cc := cX11_cut) (nL := 2) (ret := (some .int)) (own := RX11) (l0 := [(0, .ref (ω.2.2 0))]) rfl (by decide +kernel) rfl (Nat.le_of_ble_eq_true rfl) rfl ?_
  refine rj_aload_n 0 dX11_cut_0 rfl rfl ?_
  refine rj_getR (C0 := RX11) (T := TX11) (N := 6) (j := 0) (r := 1) dX11_cut_1 rfl vX11_cut_11 rfl (rj_lt hω (k := 0) rfl) (rj_sh hω ly_0) (by decide) kX11_cut_12 rfl ?_
  refine rj_getR (C0 := RX5) (T := TX5) (N := 8) (j := 3) (r := 17) dX11_cut_4 rfl vX11_cut_5 rfl (rj_lt hω (k := 1) rfl) (rj_sh hω ly_1) (by decide) kX11_cut_135 rfl ?_
  refine rj_cV (rest := []) (sX3_minutesOut (g := g) (ω := ω) hω μ   (hqa).1) gX11_cut_X3_minutesOut (rj_lt hω (k := 17) rfl) (rj_sh hω ly_17) rfl rfl hVX3_minutesOut ⟨Nat.le_of_ble_eq_true rfl, Nat.le_of_ble_eq_true rfl⟩ dX11_cut_7 rfl rfl rfl (Nat.le_of_ble_eq_true rfl) rfl (Nat.le_of_ble_eq_true rfl) rfl ?_
  refine rj_istore_n (l' := [(1, .int (fX3_minutesOut μ)), (0, .ref (ω.2.2 0))]) dX11_cut_10 rfl (rj_bl rfl) rfl ?_
  refine rj_iload_n 0 dX11_cut_11 rfl rfl ?_
  refine rj_if_gt dX11_cut_12 rfl rfl (fun h1 => ?_) (fun h1 => ?_)
  · skip
    refine rj_aload_n 1 dX11_cut_19 rfl rfl ?_
    refine rj_getR (C0 := RX11) (T := TX11) (N := 6) (j := 0) (r := 1) dX11_cut_20 rfl vX11_cut_11 rfl (rj_lt hω (k := 0) rfl) (rj_sh hω ly_0) (by decide) kX11_cut_12 rfl ?_
    refine rj_getR (C0 := RX5) (T := TX5) (N := 8) (j := 3) (r := 17) dX11_cut_23 rfl vX11_cut_5 rfl (rj_lt hω (k := 1) rfl) (rj_sh hω ly_1) (by decide) kX11_cut_135 rfl ?_
    refine rj_iload_n 0 dX11_cut_26 rfl rfl ?_
    refine rj_iconst (v := 1) dX11_cut_27 rfl (by decide) ?_
    refine rj_isub dX11_cut_28 rfl ?_
    refine rj_cV (rest := []) (sX3_firstTooFull (g := g) (ω := ω) hω μ ((fX3_minutesOut μ) - 1)   ) gX11_cut_X3_firstTooFull (rj_lt hω (k := 17) rfl) (rj_sh hω ly_17) rfl rfl hVX3_firstTooFull ⟨Nat.le_of_ble_eq_true rfl, Nat.le_of_ble_eq_true rfl⟩ dX11_cut_29 rfl rfl rfl (Nat.le_of_ble_eq_true rfl) rfl (Nat.le_of_ble_eq_true rfl) rfl ?_
    exact rj_iret dX11_cut_32 rfl (Nat.le_of_ble_eq_true rfl) (Nat.le_of_ble_eq_true rfl) ⟨(by unfold fX11_cut; rw [if_pos h1]; try rfl), rfl, rfl⟩
  · skip
    refine rj_iconst (v := 0) dX11_cut_15 rfl (by decide) ?_
    refine rj_goto dX11_cut_16 rfl ?_
    exact rj_iret dX11_cut_32 rfl (Nat.le_of_ble_eq_true rfl) (Nat.le_of_ble_eq_true rfl) ⟨(by unfold fX11_cut; rw [if_neg h1]; try rfl), rfl, rfl⟩
theorem hSX11_isOutInTime : yX11_isOutInTime.cls ≠ "java/lang/invoke/MethodHandle" ∧ yX11_isOutInTime.cls ≠ "java/lang/invoke/VarHandle" ∧ (parseMethodDescriptor yX11_isOutInTime.desc).map (fun d => d.parameters.length) = some 0 := by decide +kernel
theorem hVX11_isOutInTime : yX11_isOutInTime.cls = RX11 ∧ yX11_isOutInTime.cls ≠ "java/lang/invoke/MethodHandle" ∧ yX11_isOutInTime.cls ≠ "java/lang/invoke/VarHandle" ∧ (parseMethodDescriptor yX11_isOutInTime.desc).map (fun d => d.parameters.length) = some 0 := by decide +kernel
theorem vX11_isOutInTime_11 : ∀ w ∈ u_ws RX11 TX11 6, w ∈ wsX11_isOutInTime := by decide +kernel
theorem kX11_isOutInTime_12 : Cond.fieldLink RX11 12 (TX11 0).1 (TX11 0).2.1 (TX11 0).2.2.1 ∈ wsX11_isOutInTime := by decide +kernel
theorem vX11_isOutInTime_5 : ∀ w ∈ u_ws RX5 TX5 8, w ∈ wsX11_isOutInTime := by decide +kernel
theorem kX11_isOutInTime_135 : Cond.fieldLink RX11 135 (TX5 3).1 (TX5 3).2.1 (TX5 3).2.2.1 ∈ wsX11_isOutInTime := by decide +kernel
def fX11_isOutInTime (μ : rj_M) : Int32 := (if (fX3_minutesOut μ) = (-1) then 1 else (if (fX3_firstTooFull μ (fX3_minutesOut μ)) = 0 then 1 else 0))
def qX11_isOutInTime (μ : rj_M) : Prop := (qX3_minutesOut μ ∧ True)
set_option maxHeartbeats 40000000 in
set_option maxRecDepth 100000 in
theorem sX11_isOutInTime {g : rj_G} {ω : rj_W} (hω : rj_ok ω) (μ : rj_M)   (hq : qX11_isOutInTime μ) : rj_Sp g yX11_isOutInTime wsX11_isOutInTime (rj_rm 5 0) [.ref (ω.2.2 0)] ω μ (rj_D (.inl (some (.int (fX11_isOutInTime μ)))) ω μ) := by
  have hqa := hq
  unfold qX11_isOutInTime at hqa
  refine rj_of' (cc := cX11_isOutInTime) (nL := 2) (ret := (some .boolean)) (own := RX11) (l0 := [(0, .ref (ω.2.2 0))]) rfl (by decide +kernel) rfl (Nat.le_of_ble_eq_true rfl) rfl ?_
  refine rj_aload_n 0 dX11_isOutInTime_0 rfl rfl ?_
  refine rj_getR (C0 := RX11) (T := TX11) (N := 6) (j := 0) (r := 1) dX11_isOutInTime_1 rfl vX11_isOutInTime_11 rfl (rj_lt hω (k := 0) rfl) (rj_sh hω ly_0) (by decide) kX11_isOutInTime_12 rfl ?_
  refine rj_getR (C0 := RX5) (T := TX5) (N := 8) (j := 3) (r := 17) dX11_isOutInTime_4 rfl vX11_isOutInTime_5 rfl (rj_lt hω (k := 1) rfl) (rj_sh hω ly_1) (by decide) kX11_isOutInTime_135 rfl ?_
  refine rj_cV (rest := []) (sX3_minutesOut (g := g) (ω := ω) hω μ   (hqa).1) gX11_isOutInTime_X3_minutesOut (rj_lt hω (k := 17) rfl) (rj_sh hω ly_17) rfl rfl hVX3_minutesOut ⟨Nat.le_of_ble_eq_true rfl, Nat.le_of_ble_eq_true rfl⟩ dX11_isOutInTime_7 rfl rfl rfl (Nat.le_of_ble_eq_true rfl) rfl (Nat.le_of_ble_eq_true rfl) rfl ?_
  refine rj_istore_n (l' := [(1, .int (fX3_minutesOut μ)), (0, .ref (ω.2.2 0))]) dX11_isOutInTime_10 rfl (rj_bl rfl) rfl ?_
  refine rj_iload_n 0 dX11_isOutInTime_11 rfl rfl ?_
  refine rj_iconst (v := (-1)) dX11_isOutInTime_12 rfl (by decide) ?_
  refine rj_icmp_eq dX11_isOutInTime_13 rfl rfl (fun h1 => ?_) (fun h1 => ?_)
  · skip
    refine rj_iconst (v := 1) dX11_isOutInTime_30 rfl (by decide) ?_
    refine rj_goto dX11_isOutInTime_31 rfl ?_
    exact rj_zret dX11_isOutInTime_35 rfl rfl (Nat.le_of_ble_eq_true rfl) (Nat.le_of_ble_eq_true rfl) ⟨(by unfold fX11_isOutInTime; rw [if_pos h1]; try rfl), rfl, rfl⟩
  · skip
    refine rj_aload_n 1 dX11_isOutInTime_16 rfl rfl ?_
    refine rj_getR (C0 := RX11) (T := TX11) (N := 6) (j := 0) (r := 1) dX11_isOutInTime_17 rfl vX11_isOutInTime_11 rfl (rj_lt hω (k := 0) rfl) (rj_sh hω ly_0) (by decide) kX11_isOutInTime_12 rfl ?_
    refine rj_getR (C0 := RX5) (T := TX5) (N := 8) (j := 3) (r := 17) dX11_isOutInTime_20 rfl vX11_isOutInTime_5 rfl (rj_lt hω (k := 1) rfl) (rj_sh hω ly_1) (by decide) kX11_isOutInTime_135 rfl ?_
    refine rj_iload_n 0 dX11_isOutInTime_23 rfl rfl ?_
    refine rj_cV (rest := []) (sX3_firstTooFull (g := g) (ω := ω) hω μ (fX3_minutesOut μ)   ) gX11_isOutInTime_X3_firstTooFull (rj_lt hω (k := 17) rfl) (rj_sh hω ly_17) rfl rfl hVX3_firstTooFull ⟨Nat.le_of_ble_eq_true rfl, Nat.le_of_ble_eq_true rfl⟩ dX11_isOutInTime_24 rfl rfl rfl (Nat.le_of_ble_eq_true rfl) rfl (Nat.le_of_ble_eq_true rfl) rfl ?_
    refine rj_if_ne dX11_isOutInTime_27 rfl rfl (fun h2 => ?_) (fun h2 => ?_)
    · skip
      refine rj_iconst (v := 0) dX11_isOutInTime_34 rfl (by decide) ?_
      exact rj_zret dX11_isOutInTime_35 rfl rfl (Nat.le_of_ble_eq_true rfl) (Nat.le_of_ble_eq_true rfl) ⟨(by unfold fX11_isOutInTime; rw [if_neg h1]; rw [if_neg h2]; try rfl), rfl, rfl⟩
    · skip
      refine rj_iconst (v := 1) dX11_isOutInTime_30 rfl (by decide) ?_
      refine rj_goto dX11_isOutInTime_31 rfl ?_
      exact rj_zret dX11_isOutInTime_35 rfl rfl (Nat.le_of_ble_eq_true rfl) (Nat.le_of_ble_eq_true rfl) ⟨(by unfold fX11_isOutInTime; rw [if_neg h1]; rw [if_pos h2]; try rfl), rfl, rfl⟩
theorem nX11_isOutInTime (μ : rj_M) : narrow .boolean (.int (fX11_isOutInTime μ)) = .int (fX11_isOutInTime μ) := by
  unfold fX11_isOutInTime
  split
  · rfl
  · split
    · rfl
    · rfl
theorem hSX11_helpers : yX11_helpers.cls ≠ "java/lang/invoke/MethodHandle" ∧ yX11_helpers.cls ≠ "java/lang/invoke/VarHandle" ∧ (parseMethodDescriptor yX11_helpers.desc).map (fun d => d.parameters.length) = some 1 := by decide +kernel
theorem hVX11_helpers : yX11_helpers.cls = RX11 ∧ yX11_helpers.cls ≠ "java/lang/invoke/MethodHandle" ∧ yX11_helpers.cls ≠ "java/lang/invoke/VarHandle" ∧ (parseMethodDescriptor yX11_helpers.desc).map (fun d => d.parameters.length) = some 1 := by decide +kernel
theorem vX11_helpers_11 : ∀ w ∈ u_ws RX11 TX11 6, w ∈ wsX11_helpers := by decide +kernel
theorem kX11_helpers_12 : Cond.fieldLink RX11 12 (TX11 0).1 (TX11 0).2.1 (TX11 0).2.2.1 ∈ wsX11_helpers := by decide +kernel
theorem vX11_helpers_5 : ∀ w ∈ u_ws RX5 TX5 8, w ∈ wsX11_helpers := by decide +kernel
theorem kX11_helpers_181 : Cond.fieldLink RX11 181 (TX5 5).1 (TX5 5).2.1 (TX5 5).2.2.1 ∈ wsX11_helpers := by decide +kernel
theorem vX11_helpers_10 : ∀ w ∈ u_ws RX10 TX10 4, w ∈ wsX11_helpers := by decide +kernel
theorem kX11_helpers_359 : Cond.fieldLink RX11 359 (TX10 2).1 (TX10 2).2.1 (TX10 2).2.2.1 ∈ wsX11_helpers := by decide +kernel
def fX11_helpers (μ : rj_M) (a0 : Int32) : Int32 ⊕ String := (if a0 = (-1) then (.inl (fX10_sumOfStarts (mX10_planStarts μ))) else (rj_bx (fX11_needPlace μ a0 24) (.inl ((mX10_planStarts μ).1 28 a0.toNatClampNeg))))
def mX11_helpers (μ : rj_M) (a0 : Int32) : rj_M := (if a0 = (-1) then (mX10_planStarts μ) else (rj_bm (fX11_needPlace μ a0 24) (mX10_planStarts μ) μ))
def qX11_helpers (μ : rj_M) (a0 : Int32) : Prop := (if a0 = (-1) then (qX10_planStarts μ ∧ True) else (rq_bx (fX11_needPlace μ a0 24) (qX10_planStarts μ ∧ True)))
set_option maxHeartbeats 40000000 in
set_option maxRecDepth 100000 in
theorem sX11_helpers {g : rj_G} {ω : rj_W} (hω : rj_ok ω) (μ : rj_M) (a0 : Int32)   (hq : qX11_helpers μ a0) : rj_Sp g yX11_helpers wsX11_helpers (rj_rm 7 1) [.ref (ω.2.2 0), .int a0] ω μ (rj_D (rj_oi (fX11_helpers μ a0)) ω (mX11_helpers μ a0)) := by
  have hqa := hq
  unfold qX11_helpers at hqa
  refine rj_of' (cc := cX11_helpers) (nL := 2) (ret := (some .int)) (own := RX11) (l0 := [(0, .ref (ω.2.2 0)), (1, .int a0)]) rfl (by decide +kernel) rfl (Nat.le_of_ble_eq_true rfl) rfl ?_
  refine rj_iload_n 1 dX11_helpers_0 rfl rfl ?_
  refine rj_iconst (v := (-1)) dX11_helpers_1 rfl (by decide) ?_
  refine rj_icmp_eq dX11_helpers_2 rfl rfl (fun h1 => ?_) (fun h1 => ?_)
  · have hq1 := hqa; rw [if_pos h1] at hq1
    refine rj_aload_n 0 dX11_helpers_11 rfl rfl ?_
    refine rj_getR (C0 := RX11) (T := TX11) (N := 6) (j := 0) (r := 1) dX11_helpers_12 rfl vX11_helpers_11 rfl (rj_lt hω (k := 0) rfl) (rj_sh hω ly_0) (by decide) kX11_helpers_12 rfl ?_
    refine rj_getR (C0 := RX5) (T := TX5) (N := 8) (j := 5) (r := 26) dX11_helpers_15 rfl vX11_helpers_5 rfl (rj_lt hω (k := 1) rfl) (rj_sh hω ly_1) (by decide) kX11_helpers_181 rfl ?_
    refine rj_cV (rest := []) (sX10_planStarts (g := g) (ω := ω) hω μ   (hq1).1) gX11_helpers_X10_planStarts (rj_lt hω (k := 26) rfl) (rj_sh hω ly_26) rfl rfl hVX10_planStarts ⟨Nat.le_of_ble_eq_true rfl, Nat.le_of_ble_eq_true rfl⟩ dX11_helpers_18 rfl rfl rfl (Nat.le_of_ble_eq_true rfl) rfl (Nat.le_of_ble_eq_true rfl) rfl ?_
    refine rj_iload_n 1 dX11_helpers_21 rfl rfl ?_
    refine rj_iconst (v := (-1)) dX11_helpers_22 rfl (by decide) ?_
    refine rj_icmp_ne dX11_helpers_23 rfl rfl (fun h2 => ?_) (fun h2 => ?_)
    · exact absurd h1 h2
    · refine rj_aload_n 0 dX11_helpers_26 rfl rfl ?_
      refine rj_getR (C0 := RX11) (T := TX11) (N := 6) (j := 0) (r := 1) dX11_helpers_27 rfl vX11_helpers_11 rfl (rj_lt hω (k := 0) rfl) (rj_sh hω ly_0) (by decide) kX11_helpers_12 rfl ?_
      refine rj_getR (C0 := RX5) (T := TX5) (N := 8) (j := 5) (r := 26) dX11_helpers_30 rfl vX11_helpers_5 rfl (rj_lt hω (k := 1) rfl) (rj_sh hω ly_1) (by decide) kX11_helpers_181 rfl ?_
      refine rj_cV (rest := []) (sX10_sumOfStarts (g := g) (ω := ω) hω (mX10_planStarts μ)   ) gX11_helpers_X10_sumOfStarts (rj_lt hω (k := 26) rfl) (rj_sh hω ly_26) rfl rfl hVX10_sumOfStarts ⟨Nat.le_of_ble_eq_true rfl, Nat.le_of_ble_eq_true rfl⟩ dX11_helpers_33 rfl rfl rfl (Nat.le_of_ble_eq_true rfl) rfl (Nat.le_of_ble_eq_true rfl) rfl ?_
      refine rj_goto dX11_helpers_36 rfl ?_
      exact rj_iret dX11_helpers_51 rfl (Nat.le_of_ble_eq_true rfl) (Nat.le_of_ble_eq_true rfl) ⟨(by unfold fX11_helpers; rw [if_pos h1]; try rfl), rfl, (by unfold mX11_helpers; rw [if_pos h1]; try rfl)⟩
  · have hq2 := hqa; rw [if_neg h1] at hq2
    refine rj_iload_n 1 dX11_helpers_5 rfl rfl ?_
    refine rj_bipush (v := 24) dX11_helpers_6 rfl (by decide) ?_
    refine rj_cSx (rest := []) (sX11_needPlace (g := g) (ω := ω) hω μ a0 24   ) gX11_helpers_X11_needPlace rfl hSX11_needPlace ⟨Nat.le_of_ble_eq_true rfl, Nat.le_of_ble_eq_true rfl⟩ dX11_helpers_8 rfl rfl rfl (Nat.le_of_ble_eq_true rfl) rfl (Nat.le_of_ble_eq_true rfl) (fun E hE4 => ?_) (fun hx3 => ?_)
    · exact ⟨(by unfold fX11_helpers; try (rw [if_neg h1]); try (rw [hE4]); try (simp only [rj_bx]); try rfl), rfl, (by unfold mX11_helpers; try (rw [if_neg h1]); try (rw [hE4]); try (simp only [rj_bm]); try rfl)⟩
    · have hq3 := hq2; rw [hx3] at hq3; simp only [rq_bx] at hq3
      refine rj_aload_n 0 dX11_helpers_11 rfl rfl ?_
      refine rj_getR (C0 := RX11) (T := TX11) (N := 6) (j := 0) (r := 1) dX11_helpers_12 rfl vX11_helpers_11 rfl (rj_lt hω (k := 0) rfl) (rj_sh hω ly_0) (by decide) kX11_helpers_12 rfl ?_
      refine rj_getR (C0 := RX5) (T := TX5) (N := 8) (j := 5) (r := 26) dX11_helpers_15 rfl vX11_helpers_5 rfl (rj_lt hω (k := 1) rfl) (rj_sh hω ly_1) (by decide) kX11_helpers_181 rfl ?_
      refine rj_cV (rest := []) (sX10_planStarts (g := g) (ω := ω) hω μ   (hq3).1) gX11_helpers_X10_planStarts (rj_lt hω (k := 26) rfl) (rj_sh hω ly_26) rfl rfl hVX10_planStarts ⟨Nat.le_of_ble_eq_true rfl, Nat.le_of_ble_eq_true rfl⟩ dX11_helpers_18 rfl rfl rfl (Nat.le_of_ble_eq_true rfl) rfl (Nat.le_of_ble_eq_true rfl) rfl ?_
      refine rj_iload_n 1 dX11_helpers_21 rfl rfl ?_
      refine rj_iconst (v := (-1)) dX11_helpers_22 rfl (by decide) ?_
      refine rj_icmp_ne dX11_helpers_23 rfl rfl (fun h5 => ?_) (fun h5 => ?_)
      · refine rj_aload_n 0 dX11_helpers_39 rfl rfl ?_
        refine rj_getR (C0 := RX11) (T := TX11) (N := 6) (j := 0) (r := 1) dX11_helpers_40 rfl vX11_helpers_11 rfl (rj_lt hω (k := 0) rfl) (rj_sh hω ly_0) (by decide) kX11_helpers_12 rfl ?_
        refine rj_getR (C0 := RX5) (T := TX5) (N := 8) (j := 5) (r := 26) dX11_helpers_43 rfl vX11_helpers_5 rfl (rj_lt hω (k := 1) rfl) (rj_sh hω ly_1) (by decide) kX11_helpers_181 rfl ?_
        refine rj_getR (C0 := RX10) (T := TX10) (N := 4) (j := 2) (r := 28) dX11_helpers_46 rfl vX11_helpers_10 rfl (rj_lt hω (k := 26) rfl) (rj_sh hω ly_26) (by decide) kX11_helpers_359 rfl ?_
        refine rj_iload_n 1 dX11_helpers_49 rfl rfl ?_
        refine rj_iald dX11_helpers_50 rfl (rj_lt hω (k := 28) rfl) (rj_sh hω ly_28) (rj_placein hx3 rfl) ?_
        exact rj_iret dX11_helpers_51 rfl (Nat.le_of_ble_eq_true rfl) (Nat.le_of_ble_eq_true rfl) ⟨(by unfold fX11_helpers; try (rw [if_neg h1]); try (rw [hx3]); try (simp only [rj_bx]); try rfl), rfl, (by unfold mX11_helpers; try (rw [if_neg h1]); try (rw [hx3]); try (simp only [rj_bm]); try rfl)⟩
      · exact absurd h5 h1
theorem hSX11_isProofRight : yX11_isProofRight.cls ≠ "java/lang/invoke/MethodHandle" ∧ yX11_isProofRight.cls ≠ "java/lang/invoke/VarHandle" ∧ (parseMethodDescriptor yX11_isProofRight.desc).map (fun d => d.parameters.length) = some 0 := by decide +kernel
theorem hVX11_isProofRight : yX11_isProofRight.cls = RX11 ∧ yX11_isProofRight.cls ≠ "java/lang/invoke/MethodHandle" ∧ yX11_isProofRight.cls ≠ "java/lang/invoke/VarHandle" ∧ (parseMethodDescriptor yX11_isProofRight.desc).map (fun d => d.parameters.length) = some 0 := by decide +kernel
theorem vX11_isProofRight_11 : ∀ w ∈ u_ws RX11 TX11 6, w ∈ wsX11_isProofRight := by decide +kernel
theorem kX11_isProofRight_12 : Cond.fieldLink RX11 12 (TX11 0).1 (TX11 0).2.1 (TX11 0).2.2.1 ∈ wsX11_isProofRight := by decide +kernel
theorem vX11_isProofRight_5 : ∀ w ∈ u_ws RX5 TX5 8, w ∈ wsX11_isProofRight := by decide +kernel
theorem kX11_isProofRight_181 : Cond.fieldLink RX11 181 (TX5 5).1 (TX5 5).2.1 (TX5 5).2.2.1 ∈ wsX11_isProofRight := by decide +kernel
def fX11_isProofRight (μ : rj_M) : Int32 := (if (fX10_sumOfStarts (mX10_planStarts μ)) = (fX10_needOf (mX10_neediestHours (mX10_planStarts μ)) (fX10_neediestHours (mX10_planStarts μ))) then 1 else 0)
def mX11_isProofRight (μ : rj_M) : rj_M := (if (fX10_sumOfStarts (mX10_planStarts μ)) = (fX10_needOf (mX10_neediestHours (mX10_planStarts μ)) (fX10_neediestHours (mX10_planStarts μ))) then (mX10_neediestHours (mX10_planStarts μ)) else (mX10_neediestHours (mX10_planStarts μ)))
def qX11_isProofRight (μ : rj_M) : Prop := (qX10_planStarts μ ∧ True)
set_option maxHeartbeats 40000000 in
set_option maxRecDepth 100000 in
theorem sX11_isProofRight {g : rj_G} {ω : rj_W} (hω : rj_ok ω) (μ : rj_M)   (hq : qX11_isProofRight μ) : rj_Sp g yX11_isProofRight wsX11_isProofRight (rj_rm 3 0) [.ref (ω.2.2 0)] ω μ (rj_D (.inl (some (.int (fX11_isProofRight μ)))) ω (mX11_isProofRight μ)) := by
  have hqa := hq
  unfold qX11_isProofRight at hqa
  refine rj_of' (cc := cX11_isProofRight) (nL := 1) (ret := (some .boolean)) (own := RX11) (l0 := [(0, .ref (ω.2.2 0))]) rfl (by decide +kernel) rfl (Nat.le_of_ble_eq_true rfl) rfl ?_
  refine rj_aload_n 0 dX11_isProofRight_0 rfl rfl ?_
  refine rj_getR (C0 := RX11) (T := TX11) (N := 6) (j := 0) (r := 1) dX11_isProofRight_1 rfl vX11_isProofRight_11 rfl (rj_lt hω (k := 0) rfl) (rj_sh hω ly_0) (by decide) kX11_isProofRight_12 rfl ?_
  refine rj_getR (C0 := RX5) (T := TX5) (N := 8) (j := 5) (r := 26) dX11_isProofRight_4 rfl vX11_isProofRight_5 rfl (rj_lt hω (k := 1) rfl) (rj_sh hω ly_1) (by decide) kX11_isProofRight_181 rfl ?_
  refine rj_cV (rest := []) (sX10_planStarts (g := g) (ω := ω) hω μ   (hqa).1) gX11_isProofRight_X10_planStarts (rj_lt hω (k := 26) rfl) (rj_sh hω ly_26) rfl rfl hVX10_planStarts ⟨Nat.le_of_ble_eq_true rfl, Nat.le_of_ble_eq_true rfl⟩ dX11_isProofRight_7 rfl rfl rfl (Nat.le_of_ble_eq_true rfl) rfl (Nat.le_of_ble_eq_true rfl) rfl ?_
  refine rj_aload_n 0 dX11_isProofRight_10 rfl rfl ?_
  refine rj_getR (C0 := RX11) (T := TX11) (N := 6) (j := 0) (r := 1) dX11_isProofRight_11 rfl vX11_isProofRight_11 rfl (rj_lt hω (k := 0) rfl) (rj_sh hω ly_0) (by decide) kX11_isProofRight_12 rfl ?_
  refine rj_getR (C0 := RX5) (T := TX5) (N := 8) (j := 5) (r := 26) dX11_isProofRight_14 rfl vX11_isProofRight_5 rfl (rj_lt hω (k := 1) rfl) (rj_sh hω ly_1) (by decide) kX11_isProofRight_181 rfl ?_
  refine rj_cV (rest := []) (sX10_sumOfStarts (g := g) (ω := ω) hω (mX10_planStarts μ)   ) gX11_isProofRight_X10_sumOfStarts (rj_lt hω (k := 26) rfl) (rj_sh hω ly_26) rfl rfl hVX10_sumOfStarts ⟨Nat.le_of_ble_eq_true rfl, Nat.le_of_ble_eq_true rfl⟩ dX11_isProofRight_17 rfl rfl rfl (Nat.le_of_ble_eq_true rfl) rfl (Nat.le_of_ble_eq_true rfl) rfl ?_
  refine rj_aload_n 0 dX11_isProofRight_20 rfl rfl ?_
  refine rj_getR (C0 := RX11) (T := TX11) (N := 6) (j := 0) (r := 1) dX11_isProofRight_21 rfl vX11_isProofRight_11 rfl (rj_lt hω (k := 0) rfl) (rj_sh hω ly_0) (by decide) kX11_isProofRight_12 rfl ?_
  refine rj_getR (C0 := RX5) (T := TX5) (N := 8) (j := 5) (r := 26) dX11_isProofRight_24 rfl vX11_isProofRight_5 rfl (rj_lt hω (k := 1) rfl) (rj_sh hω ly_1) (by decide) kX11_isProofRight_181 rfl ?_
  refine rj_aload_n 0 dX11_isProofRight_27 rfl rfl ?_
  refine rj_getR (C0 := RX11) (T := TX11) (N := 6) (j := 0) (r := 1) dX11_isProofRight_28 rfl vX11_isProofRight_11 rfl (rj_lt hω (k := 0) rfl) (rj_sh hω ly_0) (by decide) kX11_isProofRight_12 rfl ?_
  refine rj_getR (C0 := RX5) (T := TX5) (N := 8) (j := 5) (r := 26) dX11_isProofRight_31 rfl vX11_isProofRight_5 rfl (rj_lt hω (k := 1) rfl) (rj_sh hω ly_1) (by decide) kX11_isProofRight_181 rfl ?_
  refine rj_cV (rest := [.ref (ω.2.2 26), .int (fX10_sumOfStarts (mX10_planStarts μ))]) (sX10_neediestHours (g := g) (ω := ω) hω (mX10_planStarts μ)   ) gX11_isProofRight_X10_neediestHours (rj_lt hω (k := 26) rfl) (rj_sh hω ly_26) rfl rfl hVX10_neediestHours ⟨Nat.le_of_ble_eq_true rfl, Nat.le_of_ble_eq_true rfl⟩ dX11_isProofRight_34 rfl rfl rfl (Nat.le_of_ble_eq_true rfl) rfl (Nat.le_of_ble_eq_true rfl) rfl ?_
  refine rj_cV (rest := [.int (fX10_sumOfStarts (mX10_planStarts μ))]) (sX10_needOf (g := g) (ω := ω) hω (mX10_neediestHours (mX10_planStarts μ)) (fX10_neediestHours (mX10_planStarts μ))   ) gX11_isProofRight_X10_needOf (rj_lt hω (k := 26) rfl) (rj_sh hω ly_26) rfl rfl hVX10_needOf ⟨Nat.le_of_ble_eq_true rfl, Nat.le_of_ble_eq_true rfl⟩ dX11_isProofRight_37 rfl rfl rfl (Nat.le_of_ble_eq_true rfl) rfl (Nat.le_of_ble_eq_true rfl) rfl ?_
  refine rj_icmp_ne dX11_isProofRight_40 rfl rfl (fun h1 => ?_) (fun h1 => ?_)
  · skip
    refine rj_iconst (v := 0) dX11_isProofRight_47 rfl (by decide) ?_
    exact rj_zret dX11_isProofRight_48 rfl rfl (Nat.le_of_ble_eq_true rfl) (Nat.le_of_ble_eq_true rfl) ⟨(by unfold fX11_isProofRight; rw [if_neg h1]; try rfl), rfl, (by unfold mX11_isProofRight; rw [if_neg h1]; try rfl)⟩
  · skip
    refine rj_iconst (v := 1) dX11_isProofRight_43 rfl (by decide) ?_
    refine rj_goto dX11_isProofRight_44 rfl ?_
    exact rj_zret dX11_isProofRight_48 rfl rfl (Nat.le_of_ble_eq_true rfl) (Nat.le_of_ble_eq_true rfl) ⟨(by unfold fX11_isProofRight; rw [if_pos h1]; try rfl), rfl, (by unfold mX11_isProofRight; rw [if_pos h1]; try rfl)⟩
theorem nX11_isProofRight (μ : rj_M) : narrow .boolean (.int (fX11_isProofRight μ)) = .int (fX11_isProofRight μ) := by
  unfold fX11_isProofRight
  split
  · rfl
  · rfl
theorem hSX11_front : yX11_front.cls ≠ "java/lang/invoke/MethodHandle" ∧ yX11_front.cls ≠ "java/lang/invoke/VarHandle" ∧ (parseMethodDescriptor yX11_front.desc).map (fun d => d.parameters.length) = some 2 := by decide +kernel
theorem hVX11_front : yX11_front.cls = RX11 ∧ yX11_front.cls ≠ "java/lang/invoke/MethodHandle" ∧ yX11_front.cls ≠ "java/lang/invoke/VarHandle" ∧ (parseMethodDescriptor yX11_front.desc).map (fun d => d.parameters.length) = some 2 := by decide +kernel
theorem vX11_front_11 : ∀ w ∈ u_ws RX11 TX11 6, w ∈ wsX11_front := by decide +kernel
theorem kX11_front_12 : Cond.fieldLink RX11 12 (TX11 0).1 (TX11 0).2.1 (TX11 0).2.2.1 ∈ wsX11_front := by decide +kernel
theorem vX11_front_5 : ∀ w ∈ u_ws RX5 TX5 8, w ∈ wsX11_front := by decide +kernel
theorem kX11_front_150 : Cond.fieldLink RX11 150 (TX5 4).1 (TX5 4).2.1 (TX5 4).2.2.1 ∈ wsX11_front := by decide +kernel
theorem vX11_front_0 : ∀ w ∈ u_ws RX0 TX0 7, w ∈ wsX11_front := by decide +kernel
theorem kX11_front_344 : Cond.fieldLink RX11 344 (TX0 3).1 (TX0 3).2.1 (TX0 3).2.2.1 ∈ wsX11_front := by decide +kernel
theorem xkX11_front_267 : Cond.classLink RX11 267 "java/util/NoSuchElementException" ∈ wsX11_front := by decide +kernel
theorem xiX11_front_267 : Cond.initialized "java/util/NoSuchElementException" ∈ wsX11_front := by decide +kernel
theorem xaX11_front_271 : ∀ w ∈ (vx_atS RX11 271 "java/util/NoSuchElementException" rj_exn).filter goodWord, w ∈ wsX11_front := by decide +kernel
theorem xbX11_front_271 : ∀ w ∈ (vx_atS RX11 271 "java/util/NoSuchElementException" rj_exn).filter (fun w => !goodWord w), w ∈ Cond.castable "java/util/NoSuchElementException" "java/util/NoSuchElementException" :: rj_dc.map Cond.declares := by decide +kernel
theorem xgX11_front_271 : ∀ w ∈ Cond.classLink RX11 267 "java/util/NoSuchElementException" :: Cond.initialized "java/util/NoSuchElementException" :: vx_atS RX11 271 "java/util/NoSuchElementException" rj_exn, vx_ot w = true := by decide +kernel
def fX11_front (μ : rj_M) (a0 : Int32) (a1 : Int32) : Int32 ⊕ String := (rj_bx (fX11_needPlace μ a0 3) (if (fX0_firstOf μ a0) = (-1) then (.inr "java/util/NoSuchElementException") else (if a1 = 0 then (.inl (fX0_firstOf μ a0)) else (.inl (μ.1 24 a0.toNatClampNeg)))))
set_option maxHeartbeats 40000000 in
set_option maxRecDepth 100000 in
theorem sX11_front {g : rj_G} {ω : rj_W} (hω : rj_ok ω) (μ : rj_M) (a0 : Int32) (a1 : Int32)   : rj_Sp g yX11_front wsX11_front (rj_rm 7 2) [.ref (ω.2.2 0), .int a0, .int a1] ω μ (rj_D (rj_oi (fX11_front μ a0 a1)) ω μ) := by
  refine rj_of' (cc := cX11_front) (nL := 4) (ret := (some .int)) (own := RX11) (l0 := [(0, .ref (ω.2.2 0)), (1, .int a0), (2, .int a1)]) rfl (by decide +kernel) rfl (Nat.le_of_ble_eq_true rfl) rfl ?_
  refine rj_iload_n 1 dX11_front_0 rfl rfl ?_
  refine rj_iconst (v := 3) dX11_front_1 rfl (by decide) ?_
  refine rj_cSx (rest := []) (sX11_needPlace (g := g) (ω := ω) hω μ a0 3   ) gX11_front_X11_needPlace rfl hSX11_needPlace ⟨Nat.le_of_ble_eq_true rfl, Nat.le_of_ble_eq_true rfl⟩ dX11_front_2 rfl rfl rfl (Nat.le_of_ble_eq_true rfl) rfl (Nat.le_of_ble_eq_true rfl) (fun E hE2 => ?_) (fun hx1 => ?_)
  · exact ⟨(by unfold fX11_front; try (rw [hE2]); try (simp only [rj_bx]); try rfl), rfl, rfl⟩
  · refine rj_aload_n 0 dX11_front_5 rfl rfl ?_
    refine rj_getR (C0 := RX11) (T := TX11) (N := 6) (j := 0) (r := 1) dX11_front_6 rfl vX11_front_11 rfl (rj_lt hω (k := 0) rfl) (rj_sh hω ly_0) (by decide) kX11_front_12 rfl ?_
    refine rj_getR (C0 := RX5) (T := TX5) (N := 8) (j := 4) (r := 21) dX11_front_9 rfl vX11_front_5 rfl (rj_lt hω (k := 1) rfl) (rj_sh hω ly_1) (by decide) kX11_front_150 rfl ?_
    refine rj_iload_n 1 dX11_front_12 rfl rfl ?_
    refine rj_cV (rest := []) (sX0_firstOf (g := g) (ω := ω) hω μ a0   ) gX11_front_X0_firstOf (rj_lt hω (k := 21) rfl) (rj_sh hω ly_21) rfl rfl hVX0_firstOf ⟨Nat.le_of_ble_eq_true rfl, Nat.le_of_ble_eq_true rfl⟩ dX11_front_13 rfl rfl rfl (Nat.le_of_ble_eq_true rfl) rfl (Nat.le_of_ble_eq_true rfl) rfl ?_
    refine rj_istore_n (l' := [(3, .int (fX0_firstOf μ a0)), (0, .ref (ω.2.2 0)), (1, .int a0), (2, .int a1)]) dX11_front_16 rfl (rj_bl rfl) rfl ?_
    refine rj_iload_n 0 dX11_front_17 rfl rfl ?_
    refine rj_iconst (v := (-1)) dX11_front_18 rfl (by decide) ?_
    refine rj_icmp_ne dX11_front_19 rfl rfl (fun h3 => ?_) (fun h3 => ?_)
    · refine rj_iload_n 3 dX11_front_33 rfl rfl ?_
      refine rj_if_eq dX11_front_34 rfl rfl (fun h4 => ?_) (fun h4 => ?_)
      · refine rj_iload_n 0 dX11_front_52 rfl rfl ?_
        exact rj_iret dX11_front_53 rfl (Nat.le_of_ble_eq_true rfl) (Nat.le_of_ble_eq_true rfl) ⟨(by unfold fX11_front; try (rw [hx1]); try (simp only [rj_bx]); try (rw [if_neg h3]); try (rw [if_pos h4]); try rfl), rfl, rfl⟩
      · refine rj_aload_n 1 dX11_front_37 rfl rfl ?_
        refine rj_getR (C0 := RX11) (T := TX11) (N := 6) (j := 0) (r := 1) dX11_front_38 rfl vX11_front_11 rfl (rj_lt hω (k := 0) rfl) (rj_sh hω ly_0) (by decide) kX11_front_12 rfl ?_
        refine rj_getR (C0 := RX5) (T := TX5) (N := 8) (j := 4) (r := 21) dX11_front_41 rfl vX11_front_5 rfl (rj_lt hω (k := 1) rfl) (rj_sh hω ly_1) (by decide) kX11_front_150 rfl ?_
        refine rj_getR (C0 := RX0) (T := TX0) (N := 7) (j := 3) (r := 24) dX11_front_44 rfl vX11_front_0 rfl (rj_lt hω (k := 21) rfl) (rj_sh hω ly_21) (by decide) kX11_front_344 rfl ?_
        refine rj_iload_n 2 dX11_front_47 rfl rfl ?_
        refine rj_iald dX11_front_48 rfl (rj_lt hω (k := 24) rfl) (rj_sh hω ly_24) (rj_placein hx1 rfl) ?_
        refine rj_goto dX11_front_49 rfl ?_
        exact rj_iret dX11_front_53 rfl (Nat.le_of_ble_eq_true rfl) (Nat.le_of_ble_eq_true rfl) ⟨(by unfold fX11_front; try (rw [hx1]); try (simp only [rj_bx]); try (rw [if_neg h3]); try (rw [if_neg h4]); try rfl), rfl, rfl⟩
    · exact rj_throwW (cls := "java/util/NoSuchElementException") (text := "the line is empty") dX11_front_22 rfl dX11_front_25 rfl dX11_front_26 rfl dX11_front_29 rfl dX11_front_32 (by decide +kernel) xkX11_front_267 xiX11_front_267 (by decide +kernel) xaX11_front_271 xbX11_front_271 (by decide) xgX11_front_271 (Nat.le_of_ble_eq_true rfl) (Nat.le_of_ble_eq_true rfl) (Nat.le_of_ble_eq_true rfl) ⟨(by unfold fX11_front; try (rw [hx1]); try (simp only [rj_bx]); try (rw [if_pos h3]); try rfl), rfl, rfl⟩
theorem hSX11_movedTo : yX11_movedTo.cls ≠ "java/lang/invoke/MethodHandle" ∧ yX11_movedTo.cls ≠ "java/lang/invoke/VarHandle" ∧ (parseMethodDescriptor yX11_movedTo.desc).map (fun d => d.parameters.length) = some 1 := by decide +kernel
theorem hVX11_movedTo : yX11_movedTo.cls = RX11 ∧ yX11_movedTo.cls ≠ "java/lang/invoke/MethodHandle" ∧ yX11_movedTo.cls ≠ "java/lang/invoke/VarHandle" ∧ (parseMethodDescriptor yX11_movedTo.desc).map (fun d => d.parameters.length) = some 1 := by decide +kernel
theorem vX11_movedTo_11 : ∀ w ∈ u_ws RX11 TX11 6, w ∈ wsX11_movedTo := by decide +kernel
theorem kX11_movedTo_40 : Cond.fieldLink RX11 40 (TX11 3).1 (TX11 3).2.1 (TX11 3).2.2.1 ∈ wsX11_movedTo := by decide +kernel
theorem vX11_movedTo_9 : ∀ w ∈ u_ws RX9 TX9 8, w ∈ wsX11_movedTo := by decide +kernel
theorem kX11_movedTo_211 : Cond.fieldLink RX11 211 (TX9 2).1 (TX9 2).2.1 (TX9 2).2.2.1 ∈ wsX11_movedTo := by decide +kernel
theorem kX11_movedTo_382 : Cond.fieldLink RX11 382 (TX9 3).1 (TX9 3).2.1 (TX9 3).2.2.1 ∈ wsX11_movedTo := by decide +kernel
def fX11_movedTo (μ : rj_M) (a0 : Int32) : Int32 ⊕ String := (rj_bx (fX11_needAct μ a0) (if (μ.1 47 2) = 0 then (.inl (-1)) else (.inl (μ.1 48 a0.toNatClampNeg))))
set_option maxHeartbeats 40000000 in
set_option maxRecDepth 100000 in
theorem sX11_movedTo {g : rj_G} {ω : rj_W} (hω : rj_ok ω) (μ : rj_M) (a0 : Int32)   : rj_Sp g yX11_movedTo wsX11_movedTo (rj_rm 7 1) [.ref (ω.2.2 0), .int a0] ω μ (rj_D (rj_oi (fX11_movedTo μ a0)) ω μ) := by
  refine rj_of' (cc := cX11_movedTo) (nL := 2) (ret := (some .int)) (own := RX11) (l0 := [(0, .ref (ω.2.2 0)), (1, .int a0)]) rfl (by decide +kernel) rfl (Nat.le_of_ble_eq_true rfl) rfl ?_
  refine rj_aload_n 0 dX11_movedTo_0 rfl rfl ?_
  refine rj_iload_n 1 dX11_movedTo_1 rfl rfl ?_
  refine rj_cVx (rest := []) (sX11_needAct (g := g) (ω := ω) hω μ a0   ) gX11_movedTo_X11_needAct (rj_lt hω (k := 0) rfl) (rj_sh hω ly_0) rfl rfl hVX11_needAct ⟨Nat.le_of_ble_eq_true rfl, Nat.le_of_ble_eq_true rfl⟩ dX11_movedTo_2 rfl rfl rfl (Nat.le_of_ble_eq_true rfl) rfl (Nat.le_of_ble_eq_true rfl) (fun E hE2 => ?_) (fun hx1 => ?_)
  · exact ⟨(by unfold fX11_movedTo; try (rw [hE2]); try (simp only [rj_bx]); try rfl), rfl, rfl⟩
  · refine rj_aload_n 0 dX11_movedTo_5 rfl rfl ?_
    refine rj_getR (C0 := RX11) (T := TX11) (N := 6) (j := 3) (r := 47) dX11_movedTo_6 rfl vX11_movedTo_11 rfl (rj_lt hω (k := 0) rfl) (rj_sh hω ly_0) (by decide) kX11_movedTo_40 rfl ?_
    refine rj_getI (C0 := RX9) (T := TX9) (N := 8) (j := 2) dX11_movedTo_9 rfl vX11_movedTo_9 rfl (rj_lt hω (k := 47) rfl) (rj_sh hω ly_47) (by decide) kX11_movedTo_211 rfl ?_
    refine rj_if_eq dX11_movedTo_12 rfl rfl (fun h3 => ?_) (fun h3 => ?_)
    · refine rj_iconst (v := (-1)) dX11_movedTo_27 rfl (by decide) ?_
      exact rj_iret dX11_movedTo_28 rfl (Nat.le_of_ble_eq_true rfl) (Nat.le_of_ble_eq_true rfl) ⟨(by unfold fX11_movedTo; try (rw [hx1]); try (simp only [rj_bx]); try (rw [if_pos h3]); try rfl), rfl, rfl⟩
    · refine rj_aload_n 0 dX11_movedTo_15 rfl rfl ?_
      refine rj_getR (C0 := RX11) (T := TX11) (N := 6) (j := 3) (r := 47) dX11_movedTo_16 rfl vX11_movedTo_11 rfl (rj_lt hω (k := 0) rfl) (rj_sh hω ly_0) (by decide) kX11_movedTo_40 rfl ?_
      refine rj_getR (C0 := RX9) (T := TX9) (N := 8) (j := 3) (r := 48) dX11_movedTo_19 rfl vX11_movedTo_9 rfl (rj_lt hω (k := 47) rfl) (rj_sh hω ly_47) (by decide) kX11_movedTo_382 rfl ?_
      refine rj_iload_n 1 dX11_movedTo_22 rfl rfl ?_
      refine rj_iald dX11_movedTo_23 rfl (rj_lt hω (k := 48) rfl) (rj_sh hω ly_48) (rj_actin hx1) ?_
      refine rj_goto dX11_movedTo_24 rfl ?_
      exact rj_iret dX11_movedTo_28 rfl (Nat.le_of_ble_eq_true rfl) (Nat.le_of_ble_eq_true rfl) ⟨(by unfold fX11_movedTo; try (rw [hx1]); try (simp only [rj_bx]); try (rw [if_neg h3]); try rfl), rfl, rfl⟩
theorem hSX11_ticketAt : yX11_ticketAt.cls ≠ "java/lang/invoke/MethodHandle" ∧ yX11_ticketAt.cls ≠ "java/lang/invoke/VarHandle" ∧ (parseMethodDescriptor yX11_ticketAt.desc).map (fun d => d.parameters.length) = some 2 := by decide +kernel
theorem hVX11_ticketAt : yX11_ticketAt.cls = RX11 ∧ yX11_ticketAt.cls ≠ "java/lang/invoke/MethodHandle" ∧ yX11_ticketAt.cls ≠ "java/lang/invoke/VarHandle" ∧ (parseMethodDescriptor yX11_ticketAt.desc).map (fun d => d.parameters.length) = some 2 := by decide +kernel
theorem vX11_ticketAt_11 : ∀ w ∈ u_ws RX11 TX11 6, w ∈ wsX11_ticketAt := by decide +kernel
theorem kX11_ticketAt_12 : Cond.fieldLink RX11 12 (TX11 0).1 (TX11 0).2.1 (TX11 0).2.2.1 ∈ wsX11_ticketAt := by decide +kernel
theorem vX11_ticketAt_5 : ∀ w ∈ u_ws RX5 TX5 8, w ∈ wsX11_ticketAt := by decide +kernel
theorem kX11_ticketAt_226 : Cond.fieldLink RX11 226 (TX5 7).1 (TX5 7).2.1 (TX5 7).2.2.1 ∈ wsX11_ticketAt := by decide +kernel
theorem vX11_ticketAt_8 : ∀ w ∈ u_ws RX8 TX8 5, w ∈ wsX11_ticketAt := by decide +kernel
theorem kX11_ticketAt_385 : Cond.fieldLink RX11 385 (TX8 1).1 (TX8 1).2.1 (TX8 1).2.2.1 ∈ wsX11_ticketAt := by decide +kernel
def fX11_ticketAt (μ : rj_M) (a0 : Int32) (a1 : Int32) : Int32 ⊕ String := (rj_bx (fX11_needPlace μ a0 12) (rj_bx (fX11_needPlace μ a1 4) (.inl (μ.1 41 ((a0 * 4) + a1).toNatClampNeg))))
set_option maxHeartbeats 40000000 in
set_option maxRecDepth 100000 in
theorem sX11_ticketAt {g : rj_G} {ω : rj_W} (hω : rj_ok ω) (μ : rj_M) (a0 : Int32) (a1 : Int32)   : rj_Sp g yX11_ticketAt wsX11_ticketAt (rj_rm 7 2) [.ref (ω.2.2 0), .int a0, .int a1] ω μ (rj_D (rj_oi (fX11_ticketAt μ a0 a1)) ω μ) := by
  refine rj_of' (cc := cX11_ticketAt) (nL := 3) (ret := (some .int)) (own := RX11) (l0 := [(0, .ref (ω.2.2 0)), (1, .int a0), (2, .int a1)]) rfl (by decide +kernel) rfl (Nat.le_of_ble_eq_true rfl) rfl ?_
  refine rj_iload_n 1 dX11_ticketAt_0 rfl rfl ?_
  refine rj_bipush (v := 12) dX11_ticketAt_1 rfl (by decide) ?_
  refine rj_cSx (rest := []) (sX11_needPlace (g := g) (ω := ω) hω μ a0 12   ) gX11_ticketAt_X11_needPlace rfl hSX11_needPlace ⟨Nat.le_of_ble_eq_true rfl, Nat.le_of_ble_eq_true rfl⟩ dX11_ticketAt_3 rfl rfl rfl (Nat.le_of_ble_eq_true rfl) rfl (Nat.le_of_ble_eq_true rfl) (fun E hE2 => ?_) (fun hx1 => ?_)
  · exact ⟨(by unfold fX11_ticketAt; try (rw [hE2]); try (simp only [rj_bx]); try rfl), rfl, rfl⟩
  · refine rj_iload_n 2 dX11_ticketAt_6 rfl rfl ?_
    refine rj_iconst (v := 4) dX11_ticketAt_7 rfl (by decide) ?_
    refine rj_cSx (rest := []) (sX11_needPlace (g := g) (ω := ω) hω μ a1 4   ) gX11_ticketAt_X11_needPlace rfl hSX11_needPlace ⟨Nat.le_of_ble_eq_true rfl, Nat.le_of_ble_eq_true rfl⟩ dX11_ticketAt_8 rfl rfl rfl (Nat.le_of_ble_eq_true rfl) rfl (Nat.le_of_ble_eq_true rfl) (fun E hE4 => ?_) (fun hx3 => ?_)
    · exact ⟨(by unfold fX11_ticketAt; try (rw [hx1]); try (simp only [rj_bx]); try (rw [hE4]); try (simp only [rj_bx]); try rfl), rfl, rfl⟩
    · refine rj_aload_n 0 dX11_ticketAt_11 rfl rfl ?_
      refine rj_getR (C0 := RX11) (T := TX11) (N := 6) (j := 0) (r := 1) dX11_ticketAt_12 rfl vX11_ticketAt_11 rfl (rj_lt hω (k := 0) rfl) (rj_sh hω ly_0) (by decide) kX11_ticketAt_12 rfl ?_
      refine rj_getR (C0 := RX5) (T := TX5) (N := 8) (j := 7) (r := 39) dX11_ticketAt_15 rfl vX11_ticketAt_5 rfl (rj_lt hω (k := 1) rfl) (rj_sh hω ly_1) (by decide) kX11_ticketAt_226 rfl ?_
      refine rj_getR (C0 := RX8) (T := TX8) (N := 5) (j := 1) (r := 41) dX11_ticketAt_18 rfl vX11_ticketAt_8 rfl (rj_lt hω (k := 39) rfl) (rj_sh hω ly_39) (by decide) kX11_ticketAt_385 rfl ?_
      refine rj_iload_n 1 dX11_ticketAt_21 rfl rfl ?_
      refine rj_iconst (v := 4) dX11_ticketAt_22 rfl (by decide) ?_
      refine rj_imul dX11_ticketAt_23 rfl ?_
      refine rj_iload_n 2 dX11_ticketAt_24 rfl rfl ?_
      refine rj_iadd dX11_ticketAt_25 rfl ?_
      refine rj_iald dX11_ticketAt_26 rfl (rj_lt hω (k := 41) rfl) (rj_sh hω ly_41) (rj_vle (rj_vadd (N := 48) (rj_vmulr (k := 4) (N := 45) (rj_placein hx1 rfl) rfl rfl) (rj_placein hx3 rfl) rfl rfl) rfl) ?_
      exact rj_iret dX11_ticketAt_27 rfl (Nat.le_of_ble_eq_true rfl) (Nat.le_of_ble_eq_true rfl) ⟨(by unfold fX11_ticketAt; try (rw [hx1]); try (simp only [rj_bx]); try (rw [hx3]); try (simp only [rj_bx]); try rfl), rfl, rfl⟩
theorem hSX11_balance : yX11_balance.cls ≠ "java/lang/invoke/MethodHandle" ∧ yX11_balance.cls ≠ "java/lang/invoke/VarHandle" ∧ (parseMethodDescriptor yX11_balance.desc).map (fun d => d.parameters.length) = some 2 := by decide +kernel
theorem hVX11_balance : yX11_balance.cls = RX11 ∧ yX11_balance.cls ≠ "java/lang/invoke/MethodHandle" ∧ yX11_balance.cls ≠ "java/lang/invoke/VarHandle" ∧ (parseMethodDescriptor yX11_balance.desc).map (fun d => d.parameters.length) = some 2 := by decide +kernel
theorem vX11_balance_11 : ∀ w ∈ u_ws RX11 TX11 6, w ∈ wsX11_balance := by decide +kernel
theorem kX11_balance_12 : Cond.fieldLink RX11 12 (TX11 0).1 (TX11 0).2.1 (TX11 0).2.2.1 ∈ wsX11_balance := by decide +kernel
theorem vX11_balance_5 : ∀ w ∈ u_ws RX5 TX5 8, w ∈ wsX11_balance := by decide +kernel
theorem kX11_balance_226 : Cond.fieldLink RX11 226 (TX5 7).1 (TX5 7).2.1 (TX5 7).2.2.1 ∈ wsX11_balance := by decide +kernel
theorem vX11_balance_8 : ∀ w ∈ u_ws RX8 TX8 5, w ∈ wsX11_balance := by decide +kernel
theorem kX11_balance_396 : Cond.fieldLink RX11 396 (TX8 4).1 (TX8 4).2.1 (TX8 4).2.2.1 ∈ wsX11_balance := by decide +kernel
theorem kX11_balance_392 : Cond.fieldLink RX11 392 (TX8 3).1 (TX8 3).2.1 (TX8 3).2.2.1 ∈ wsX11_balance := by decide +kernel
theorem kX11_balance_388 : Cond.fieldLink RX11 388 (TX8 2).1 (TX8 2).2.1 (TX8 2).2.2.1 ∈ wsX11_balance := by decide +kernel
def fX11_balance (μ : rj_M) (a0 : Int32) (a1 : Int32) : Int64 ⊕ String := (rj_bx (fX11_needRange μ a0 0 2) (if a0 = 0 then (rj_bx (fX11_needRange μ a1 0 0) (.inl (μ.2.1 39 2))) else (if a0 = 1 then (rj_bx (fX11_needPlace μ a1 12) (.inl (μ.2.1 42 a1.toNatClampNeg))) else (rj_bx (fX11_needPlace μ a1 12) (.inl (μ.2.1 43 a1.toNatClampNeg))))))
set_option maxHeartbeats 40000000 in
set_option maxRecDepth 100000 in
theorem sX11_balance {g : rj_G} {ω : rj_W} (hω : rj_ok ω) (μ : rj_M) (a0 : Int32) (a1 : Int32)   : rj_Sp g yX11_balance wsX11_balance (rj_rm 7 2) [.ref (ω.2.2 0), .int a0, .int a1] ω μ (rj_D (rj_ol (fX11_balance μ a0 a1)) ω μ) := by
  refine rj_of' (cc := cX11_balance) (nL := 3) (ret := (some .long)) (own := RX11) (l0 := [(0, .ref (ω.2.2 0)), (1, .int a0), (2, .int a1)]) rfl (by decide +kernel) rfl (Nat.le_of_ble_eq_true rfl) rfl ?_
  refine rj_iload_n 1 dX11_balance_0 rfl rfl ?_
  refine rj_iconst (v := 0) dX11_balance_1 rfl (by decide) ?_
  refine rj_iconst (v := 2) dX11_balance_2 rfl (by decide) ?_
  refine rj_cSx (rest := []) (sX11_needRange (g := g) (ω := ω) hω μ a0 0 2   ) gX11_balance_X11_needRange rfl hSX11_needRange ⟨Nat.le_of_ble_eq_true rfl, Nat.le_of_ble_eq_true rfl⟩ dX11_balance_3 rfl rfl rfl (Nat.le_of_ble_eq_true rfl) rfl (Nat.le_of_ble_eq_true rfl) (fun E hE2 => ?_) (fun hx1 => ?_)
  · exact ⟨(by unfold fX11_balance; try (rw [hE2]); try (simp only [rj_bx]); try rfl), rfl, rfl⟩
  · refine rj_iload_n 1 dX11_balance_6 rfl rfl ?_
    refine rj_if_ne dX11_balance_7 rfl rfl (fun h3 => ?_) (fun h3 => ?_)
    · refine rj_iload_n 1 dX11_balance_27 rfl rfl ?_
      refine rj_iconst (v := 1) dX11_balance_28 rfl (by decide) ?_
      refine rj_icmp_ne dX11_balance_29 rfl rfl (fun h4 => ?_) (fun h4 => ?_)
      · refine rj_iload_n 2 dX11_balance_51 rfl rfl ?_
        refine rj_bipush (v := 12) dX11_balance_52 rfl (by decide) ?_
        refine rj_cSx (rest := []) (sX11_needPlace (g := g) (ω := ω) hω μ a1 12   ) gX11_balance_X11_needPlace rfl hSX11_needPlace ⟨Nat.le_of_ble_eq_true rfl, Nat.le_of_ble_eq_true rfl⟩ dX11_balance_54 rfl rfl rfl (Nat.le_of_ble_eq_true rfl) rfl (Nat.le_of_ble_eq_true rfl) (fun E hE6 => ?_) (fun hx5 => ?_)
        · exact ⟨(by unfold fX11_balance; try (rw [hx1]); try (simp only [rj_bx]); try (rw [if_neg h3]); try (rw [if_neg h4]); try (rw [hE6]); try (simp only [rj_bx]); try rfl), rfl, rfl⟩
        · refine rj_aload_n 0 dX11_balance_57 rfl rfl ?_
          refine rj_getR (C0 := RX11) (T := TX11) (N := 6) (j := 0) (r := 1) dX11_balance_58 rfl vX11_balance_11 rfl (rj_lt hω (k := 0) rfl) (rj_sh hω ly_0) (by decide) kX11_balance_12 rfl ?_
          refine rj_getR (C0 := RX5) (T := TX5) (N := 8) (j := 7) (r := 39) dX11_balance_61 rfl vX11_balance_5 rfl (rj_lt hω (k := 1) rfl) (rj_sh hω ly_1) (by decide) kX11_balance_226 rfl ?_
          refine rj_getR (C0 := RX8) (T := TX8) (N := 5) (j := 4) (r := 43) dX11_balance_64 rfl vX11_balance_8 rfl (rj_lt hω (k := 39) rfl) (rj_sh hω ly_39) (by decide) kX11_balance_396 rfl ?_
          refine rj_iload_n 2 dX11_balance_67 rfl rfl ?_
          refine rj_lald dX11_balance_68 rfl (rj_lt hω (k := 43) rfl) (rj_sh hω ly_43) (rj_placein hx5 rfl) ?_
          exact rj_lret dX11_balance_69 rfl (Nat.le_of_ble_eq_true rfl) (Nat.le_of_ble_eq_true rfl) ⟨(by unfold fX11_balance; try (rw [hx1]); try (simp only [rj_bx]); try (rw [if_neg h3]); try (rw [if_neg h4]); try (rw [hx5]); try (simp only [rj_bx]); try rfl), rfl, rfl⟩
      · refine rj_iload_n 2 dX11_balance_32 rfl rfl ?_
        refine rj_bipush (v := 12) dX11_balance_33 rfl (by decide) ?_
        refine rj_cSx (rest := []) (sX11_needPlace (g := g) (ω := ω) hω μ a1 12   ) gX11_balance_X11_needPlace rfl hSX11_needPlace ⟨Nat.le_of_ble_eq_true rfl, Nat.le_of_ble_eq_true rfl⟩ dX11_balance_35 rfl rfl rfl (Nat.le_of_ble_eq_true rfl) rfl (Nat.le_of_ble_eq_true rfl) (fun E hE8 => ?_) (fun hx7 => ?_)
        · exact ⟨(by unfold fX11_balance; try (rw [hx1]); try (simp only [rj_bx]); try (rw [if_neg h3]); try (rw [if_pos h4]); try (rw [hE8]); try (simp only [rj_bx]); try rfl), rfl, rfl⟩
        · refine rj_aload_n 0 dX11_balance_38 rfl rfl ?_
          refine rj_getR (C0 := RX11) (T := TX11) (N := 6) (j := 0) (r := 1) dX11_balance_39 rfl vX11_balance_11 rfl (rj_lt hω (k := 0) rfl) (rj_sh hω ly_0) (by decide) kX11_balance_12 rfl ?_
          refine rj_getR (C0 := RX5) (T := TX5) (N := 8) (j := 7) (r := 39) dX11_balance_42 rfl vX11_balance_5 rfl (rj_lt hω (k := 1) rfl) (rj_sh hω ly_1) (by decide) kX11_balance_226 rfl ?_
          refine rj_getR (C0 := RX8) (T := TX8) (N := 5) (j := 3) (r := 42) dX11_balance_45 rfl vX11_balance_8 rfl (rj_lt hω (k := 39) rfl) (rj_sh hω ly_39) (by decide) kX11_balance_392 rfl ?_
          refine rj_iload_n 2 dX11_balance_48 rfl rfl ?_
          refine rj_lald dX11_balance_49 rfl (rj_lt hω (k := 42) rfl) (rj_sh hω ly_42) (rj_placein hx7 rfl) ?_
          exact rj_lret dX11_balance_50 rfl (Nat.le_of_ble_eq_true rfl) (Nat.le_of_ble_eq_true rfl) ⟨(by unfold fX11_balance; try (rw [hx1]); try (simp only [rj_bx]); try (rw [if_neg h3]); try (rw [if_pos h4]); try (rw [hx7]); try (simp only [rj_bx]); try rfl), rfl, rfl⟩
    · refine rj_iload_n 2 dX11_balance_10 rfl rfl ?_
      refine rj_iconst (v := 0) dX11_balance_11 rfl (by decide) ?_
      refine rj_iconst (v := 0) dX11_balance_12 rfl (by decide) ?_
      refine rj_cSx (rest := []) (sX11_needRange (g := g) (ω := ω) hω μ a1 0 0   ) gX11_balance_X11_needRange rfl hSX11_needRange ⟨Nat.le_of_ble_eq_true rfl, Nat.le_of_ble_eq_true rfl⟩ dX11_balance_13 rfl rfl rfl (Nat.le_of_ble_eq_true rfl) rfl (Nat.le_of_ble_eq_true rfl) (fun E hE10 => ?_) (fun hx9 => ?_)
      · exact ⟨(by unfold fX11_balance; try (rw [hx1]); try (simp only [rj_bx]); try (rw [if_pos h3]); try (rw [hE10]); try (simp only [rj_bx]); try rfl), rfl, rfl⟩
      · refine rj_aload_n 0 dX11_balance_16 rfl rfl ?_
        refine rj_getR (C0 := RX11) (T := TX11) (N := 6) (j := 0) (r := 1) dX11_balance_17 rfl vX11_balance_11 rfl (rj_lt hω (k := 0) rfl) (rj_sh hω ly_0) (by decide) kX11_balance_12 rfl ?_
        refine rj_getR (C0 := RX5) (T := TX5) (N := 8) (j := 7) (r := 39) dX11_balance_20 rfl vX11_balance_5 rfl (rj_lt hω (k := 1) rfl) (rj_sh hω ly_1) (by decide) kX11_balance_226 rfl ?_
        refine rj_getL (C0 := RX8) (T := TX8) (N := 5) (j := 2) dX11_balance_23 rfl vX11_balance_8 rfl (rj_lt hω (k := 39) rfl) (rj_sh hω ly_39) (by decide) kX11_balance_388 rfl ?_
        exact rj_lret dX11_balance_26 rfl (Nat.le_of_ble_eq_true rfl) (Nat.le_of_ble_eq_true rfl) ⟨(by unfold fX11_balance; try (rw [hx1]); try (simp only [rj_bx]); try (rw [if_pos h3]); try (rw [hx9]); try (simp only [rj_bx]); try rfl), rfl, rfl⟩
theorem hSX7_bestAmong : yX7_bestAmong.cls ≠ "java/lang/invoke/MethodHandle" ∧ yX7_bestAmong.cls ≠ "java/lang/invoke/VarHandle" ∧ (parseMethodDescriptor yX7_bestAmong.desc).map (fun d => d.parameters.length) = some 4 := by decide +kernel
theorem hVX7_bestAmong : yX7_bestAmong.cls = RX7 ∧ yX7_bestAmong.cls ≠ "java/lang/invoke/MethodHandle" ∧ yX7_bestAmong.cls ≠ "java/lang/invoke/VarHandle" ∧ (parseMethodDescriptor yX7_bestAmong.desc).map (fun d => d.parameters.length) = some 4 := by decide +kernel
def fX7_bestAmong : Nat → rj_M → Int32 → Int32 → Int32
  | 0, _, _, _ => 0
  | n + 1, μ, a2, a3 => (if a3 < 0 then 0 else (if 16 ≤ a3 then 0 else (if a3 < 16 then (if ((a2 >>> (a3 &&& 31)) &&& 1) = 0 then (fX7_bestAmong n μ a2 (a3 + 1)) else (if (a2 &&& (μ.1 15 a3.toNatClampNeg)) = 0 then ((((μ.1 16 a3.toNatClampNeg) <<< (16 &&& 31)) + (1 <<< (a3 &&& 31))) + (fX7_bestAmong n μ (a2 &&& ((μ.1 15 a3.toNatClampNeg) ^^^ (-1))) (a3 + 1))) else (if (((((μ.1 16 a3.toNatClampNeg) <<< (16 &&& 31)) + (1 <<< (a3 &&& 31))) + (fX7_bestAmong n μ (a2 &&& ((μ.1 15 a3.toNatClampNeg) ^^^ (-1))) (a3 + 1))) >>> (16 &&& 31)) < ((fX7_bestAmong n μ (a2 &&& ((1 <<< (a3 &&& 31)) ^^^ (-1))) (a3 + 1)) >>> (16 &&& 31)) then (fX7_bestAmong n μ (a2 &&& ((1 <<< (a3 &&& 31)) ^^^ (-1))) (a3 + 1)) else ((((μ.1 16 a3.toNatClampNeg) <<< (16 &&& 31)) + (1 <<< (a3 &&& 31))) + (fX7_bestAmong n μ (a2 &&& ((μ.1 15 a3.toNatClampNeg) ^^^ (-1))) (a3 + 1)))))) else 0)))
theorem fX7_bestAmong_s (n : Nat) (μ : rj_M) (a2 : Int32) (a3 : Int32) : fX7_bestAmong (n + 1) μ a2 a3 = (if a3 < 0 then 0 else (if 16 ≤ a3 then 0 else (if a3 < 16 then (if ((a2 >>> (a3 &&& 31)) &&& 1) = 0 then (fX7_bestAmong n μ a2 (a3 + 1)) else (if (a2 &&& (μ.1 15 a3.toNatClampNeg)) = 0 then ((((μ.1 16 a3.toNatClampNeg) <<< (16 &&& 31)) + (1 <<< (a3 &&& 31))) + (fX7_bestAmong n μ (a2 &&& ((μ.1 15 a3.toNatClampNeg) ^^^ (-1))) (a3 + 1))) else (if (((((μ.1 16 a3.toNatClampNeg) <<< (16 &&& 31)) + (1 <<< (a3 &&& 31))) + (fX7_bestAmong n μ (a2 &&& ((μ.1 15 a3.toNatClampNeg) ^^^ (-1))) (a3 + 1))) >>> (16 &&& 31)) < ((fX7_bestAmong n μ (a2 &&& ((1 <<< (a3 &&& 31)) ^^^ (-1))) (a3 + 1)) >>> (16 &&& 31)) then (fX7_bestAmong n μ (a2 &&& ((1 <<< (a3 &&& 31)) ^^^ (-1))) (a3 + 1)) else ((((μ.1 16 a3.toNatClampNeg) <<< (16 &&& 31)) + (1 <<< (a3 &&& 31))) + (fX7_bestAmong n μ (a2 &&& ((μ.1 15 a3.toNatClampNeg) ^^^ (-1))) (a3 + 1)))))) else 0))) := rfl
def qX7_bestAmong : Nat → rj_M → Int32 → Int32 → Prop
  | 0, _, _, _ => False
  | n + 1, μ, a2, a3 => (if a3 < 0 then True else (if 16 ≤ a3 then True else (if a3 < 16 then (if ((a2 >>> (a3 &&& 31)) &&& 1) = 0 then (qX7_bestAmong n μ a2 (a3 + 1) ∧ True) else (qX7_bestAmong n μ (a2 &&& ((μ.1 15 a3.toNatClampNeg) ^^^ (-1))) (a3 + 1) ∧ (if (a2 &&& (μ.1 15 a3.toNatClampNeg)) = 0 then True else (qX7_bestAmong n μ (a2 &&& ((1 <<< (a3 &&& 31)) ^^^ (-1))) (a3 + 1) ∧ True)))) else True)))
theorem qX7_bestAmong_s (n : Nat) (μ : rj_M) (a2 : Int32) (a3 : Int32) : qX7_bestAmong (n + 1) μ a2 a3 = (if a3 < 0 then True else (if 16 ≤ a3 then True else (if a3 < 16 then (if ((a2 >>> (a3 &&& 31)) &&& 1) = 0 then (qX7_bestAmong n μ a2 (a3 + 1) ∧ True) else (qX7_bestAmong n μ (a2 &&& ((μ.1 15 a3.toNatClampNeg) ^^^ (-1))) (a3 + 1) ∧ (if (a2 &&& (μ.1 15 a3.toNatClampNeg)) = 0 then True else (qX7_bestAmong n μ (a2 &&& ((1 <<< (a3 &&& 31)) ^^^ (-1))) (a3 + 1) ∧ True)))) else True))) := rfl
set_option maxHeartbeats 40000000 in
set_option maxRecDepth 100000 in
theorem sX7_bestAmong {g : rj_G} {ω : rj_W} (hω : rj_ok ω) : ∀ (n : Nat) (μ : rj_M) (a2 : Int32) (a3 : Int32), qX7_bestAmong n μ a2 a3 → rj_Sp g yX7_bestAmong wsX7_bestAmong (rj_rm (1 + n) 0) [.ref (ω.2.2 15), .ref (ω.2.2 16), .int a2, .int a3] ω μ (rj_D (.inl (some (.int (fX7_bestAmong n μ a2 a3)))) ω μ) := by
  intro n
  induction n with
  | zero =>
    intro μ a2 a3  hq
    exact hq.elim
  | succ n ih =>
    intro μ a2 a3  hq
    have hqa := hq
    rw [qX7_bestAmong_s] at hqa
    refine rj_of' (cc := cX7_bestAmong) (nL := 7) (ret := (some .int)) (own := RX7) (l0 := [(0, .ref (ω.2.2 15)), (1, .ref (ω.2.2 16)), (2, .int a2), (3, .int a3)]) rfl (by decide +kernel) rfl (Nat.le_of_ble_eq_true rfl) rfl ?_
    refine rj_iload_n 3 dX7_bestAmong_0 rfl rfl ?_
    refine rj_if_lt dX7_bestAmong_1 rfl rfl (fun h1 => ?_) (fun h1 => ?_)
    · have hq1 := hqa; rw [if_pos h1] at hq1
      refine rj_iconst (v := 0) dX7_bestAmong_16 rfl (by decide) ?_
      exact rj_iret dX7_bestAmong_17 rfl (Nat.le_of_ble_eq_true rfl) (Nat.le_of_ble_eq_true rfl) ⟨(by rw [fX7_bestAmong_s]; rw [if_pos h1]; try rfl), rfl, rfl⟩
    · have hq2 := hqa; rw [if_neg h1] at hq2
      refine rj_iload_n 3 dX7_bestAmong_4 rfl rfl ?_
      refine rj_aload_n 0 dX7_bestAmong_5 rfl rfl ?_
      refine rj_alen (v := 16) dX7_bestAmong_6 rfl (rj_lt hω (k := 15) rfl) (rj_sh hω ly_15) rfl rfl ?_
      refine rj_icmp_ge dX7_bestAmong_7 rfl rfl (fun h2 => ?_) (fun h2 => ?_)
      · have hq3 := hq2; rw [if_pos h2] at hq3
        refine rj_iconst (v := 0) dX7_bestAmong_16 rfl (by decide) ?_
        exact rj_iret dX7_bestAmong_17 rfl (Nat.le_of_ble_eq_true rfl) (Nat.le_of_ble_eq_true rfl) ⟨(by rw [fX7_bestAmong_s]; rw [if_neg h1]; rw [if_pos h2]; try rfl), rfl, rfl⟩
      · have hq4 := hq2; rw [if_neg h2] at hq4
        refine rj_iload_n 3 dX7_bestAmong_10 rfl rfl ?_
        refine rj_aload_n 1 dX7_bestAmong_11 rfl rfl ?_
        refine rj_alen (v := 16) dX7_bestAmong_12 rfl (rj_lt hω (k := 16) rfl) (rj_sh hω ly_16) rfl rfl ?_
        refine rj_icmp_lt dX7_bestAmong_13 rfl rfl (fun h3 => ?_) (fun h3 => ?_)
        · have hq5 := hq4; rw [if_pos h3] at hq5
          refine rj_iload_n 2 dX7_bestAmong_18 rfl rfl ?_
          refine rj_iload_n 3 dX7_bestAmong_19 rfl rfl ?_
          refine rj_ishr dX7_bestAmong_20 rfl ?_
          refine rj_iconst (v := 1) dX7_bestAmong_21 rfl (by decide) ?_
          refine rj_iand dX7_bestAmong_22 rfl ?_
          refine rj_if_ne dX7_bestAmong_23 rfl rfl (fun h4 => ?_) (fun h4 => ?_)
          · have hq6 := hq5; rw [if_neg h4] at hq6
            refine rj_aload_n 1 dX7_bestAmong_36 rfl rfl ?_
            refine rj_iload_n 3 dX7_bestAmong_37 rfl rfl ?_
            refine rj_iald dX7_bestAmong_38 rfl (rj_lt hω (k := 16) rfl) (rj_sh hω ly_16) (rj_in h1 (Int32.not_le.mpr h3) rfl) ?_
            refine rj_bipush (v := 16) dX7_bestAmong_39 rfl (by decide) ?_
            refine rj_ishl dX7_bestAmong_41 rfl ?_
            refine rj_iconst (v := 1) dX7_bestAmong_42 rfl (by decide) ?_
            refine rj_iload_n 3 dX7_bestAmong_43 rfl rfl ?_
            refine rj_ishl dX7_bestAmong_44 rfl ?_
            refine rj_iadd dX7_bestAmong_45 rfl ?_
            refine rj_istore (l' := [(4, .int (((μ.1 16 a3.toNatClampNeg) <<< (16 &&& 31)) + (1 <<< (a3 &&& 31)))), (0, .ref (ω.2.2 15)), (1, .ref (ω.2.2 16)), (2, .int a2), (3, .int a3)]) dX7_bestAmong_46 rfl (rj_bl rfl) rfl ?_
            refine rj_iload 0 dX7_bestAmong_48 rfl rfl ?_
            refine rj_aload_n 1 dX7_bestAmong_50 rfl rfl ?_
            refine rj_aload_n 2 dX7_bestAmong_51 rfl rfl ?_
            refine rj_iload_n 3 dX7_bestAmong_52 rfl rfl ?_
            refine rj_aload_n 1 dX7_bestAmong_53 rfl rfl ?_
            refine rj_iload_n 4 dX7_bestAmong_54 rfl rfl ?_
            refine rj_iald dX7_bestAmong_55 rfl (rj_lt hω (k := 15) rfl) (rj_sh hω ly_15) (rj_in h1 (Int32.not_le.mpr h3) rfl) ?_
            refine rj_iconst (v := (-1)) dX7_bestAmong_56 rfl (by decide) ?_
            refine rj_ixor dX7_bestAmong_57 rfl ?_
            refine rj_iand dX7_bestAmong_58 rfl ?_
            refine rj_iload_n 4 dX7_bestAmong_59 rfl rfl ?_
            refine rj_iconst (v := 1) dX7_bestAmong_60 rfl (by decide) ?_
            refine rj_iadd dX7_bestAmong_61 rfl ?_
            refine rj_cS (rest := [.int (((μ.1 16 a3.toNatClampNeg) <<< (16 &&& 31)) + (1 <<< (a3 &&& 31)))]) (ih μ (a2 &&& ((μ.1 15 a3.toNatClampNeg) ^^^ (-1))) (a3 + 1)  (hq6).1) gX7_bestAmong_X7_bestAmong rfl hSX7_bestAmong ⟨by omega, by omega⟩ dX7_bestAmong_62 rfl rfl rfl (Nat.le_of_ble_eq_true rfl) rfl (Nat.le_of_ble_eq_true rfl) rfl ?_
            refine rj_iadd dX7_bestAmong_65 rfl ?_
            refine rj_istore (l' := [(5, .int ((((μ.1 16 a3.toNatClampNeg) <<< (16 &&& 31)) + (1 <<< (a3 &&& 31))) + (fX7_bestAmong n μ (a2 &&& ((μ.1 15 a3.toNatClampNeg) ^^^ (-1))) (a3 + 1)))), (4, .int (((μ.1 16 a3.toNatClampNeg) <<< (16 &&& 31)) + (1 <<< (a3 &&& 31)))), (0, .ref (ω.2.2 15)), (1, .ref (ω.2.2 16)), (2, .int a2), (3, .int a3)]) dX7_bestAmong_66 rfl (rj_bl rfl) rfl ?_
            refine rj_iload_n 4 dX7_bestAmong_68 rfl rfl ?_
            refine rj_aload_n 2 dX7_bestAmong_69 rfl rfl ?_
            refine rj_iload_n 5 dX7_bestAmong_70 rfl rfl ?_
            refine rj_iald dX7_bestAmong_71 rfl (rj_lt hω (k := 15) rfl) (rj_sh hω ly_15) (rj_in h1 (Int32.not_le.mpr h3) rfl) ?_
            refine rj_iand dX7_bestAmong_72 rfl ?_
            refine rj_if_ne dX7_bestAmong_73 rfl rfl (fun h5 => ?_) (fun h5 => ?_)
            · have hq7 := (hq6).2; rw [if_neg h5] at hq7
              refine rj_aload_n 2 dX7_bestAmong_79 rfl rfl ?_
              refine rj_aload_n 3 dX7_bestAmong_80 rfl rfl ?_
              refine rj_iload_n 4 dX7_bestAmong_81 rfl rfl ?_
              refine rj_iconst (v := 1) dX7_bestAmong_82 rfl (by decide) ?_
              refine rj_iload_n 5 dX7_bestAmong_83 rfl rfl ?_
              refine rj_ishl dX7_bestAmong_84 rfl ?_
              refine rj_iconst (v := (-1)) dX7_bestAmong_85 rfl (by decide) ?_
              refine rj_ixor dX7_bestAmong_86 rfl ?_
              refine rj_iand dX7_bestAmong_87 rfl ?_
              refine rj_iload_n 5 dX7_bestAmong_88 rfl rfl ?_
              refine rj_iconst (v := 1) dX7_bestAmong_89 rfl (by decide) ?_
              refine rj_iadd dX7_bestAmong_90 rfl ?_
              refine rj_cS (rest := []) (ih μ (a2 &&& ((1 <<< (a3 &&& 31)) ^^^ (-1))) (a3 + 1)  (hq7).1) gX7_bestAmong_X7_bestAmong rfl hSX7_bestAmong ⟨by omega, by omega⟩ dX7_bestAmong_91 rfl rfl rfl (Nat.le_of_ble_eq_true rfl) rfl (Nat.le_of_ble_eq_true rfl) rfl ?_
              refine rj_istore (l' := [(6, .int (fX7_bestAmong n μ (a2 &&& ((1 <<< (a3 &&& 31)) ^^^ (-1))) (a3 + 1))), (5, .int ((((μ.1 16 a3.toNatClampNeg) <<< (16 &&& 31)) + (1 <<< (a3 &&& 31))) + (fX7_bestAmong n μ (a2 &&& ((μ.1 15 a3.toNatClampNeg) ^^^ (-1))) (a3 + 1)))), (4, .int (((μ.1 16 a3.toNatClampNeg) <<< (16 &&& 31)) + (1 <<< (a3 &&& 31)))), (0, .ref (ω.2.2 15)), (1, .ref (ω.2.2 16)), (2, .int a2), (3, .int a3)]) dX7_bestAmong_94 rfl (rj_bl rfl) rfl ?_
              refine rj_iload 1 dX7_bestAmong_96 rfl rfl ?_
              refine rj_bipush (v := 16) dX7_bestAmong_98 rfl (by decide) ?_
              refine rj_ishr dX7_bestAmong_100 rfl ?_
              refine rj_iload 0 dX7_bestAmong_101 rfl rfl ?_
              refine rj_bipush (v := 16) dX7_bestAmong_103 rfl (by decide) ?_
              refine rj_ishr dX7_bestAmong_105 rfl ?_
              refine rj_icmp_lt dX7_bestAmong_106 rfl rfl (fun h6 => ?_) (fun h6 => ?_)
              · skip
                refine rj_iload 0 dX7_bestAmong_114 rfl rfl ?_
                exact rj_iret dX7_bestAmong_116 rfl (Nat.le_of_ble_eq_true rfl) (Nat.le_of_ble_eq_true rfl) ⟨(by rw [fX7_bestAmong_s]; rw [if_neg h1]; rw [if_neg h2]; rw [if_pos h3]; rw [if_neg h4]; rw [if_neg h5]; rw [if_pos h6]; try rfl), rfl, rfl⟩
              · skip
                refine rj_iload 1 dX7_bestAmong_109 rfl rfl ?_
                refine rj_goto dX7_bestAmong_111 rfl ?_
                exact rj_iret dX7_bestAmong_116 rfl (Nat.le_of_ble_eq_true rfl) (Nat.le_of_ble_eq_true rfl) ⟨(by rw [fX7_bestAmong_s]; rw [if_neg h1]; rw [if_neg h2]; rw [if_pos h3]; rw [if_neg h4]; rw [if_neg h5]; rw [if_neg h6]; try rfl), rfl, rfl⟩
            · have hq10 := (hq6).2; rw [if_pos h5] at hq10
              refine rj_iload 0 dX7_bestAmong_76 rfl rfl ?_
              exact rj_iret dX7_bestAmong_78 rfl (Nat.le_of_ble_eq_true rfl) (Nat.le_of_ble_eq_true rfl) ⟨(by rw [fX7_bestAmong_s]; rw [if_neg h1]; rw [if_neg h2]; rw [if_pos h3]; rw [if_neg h4]; rw [if_pos h5]; try rfl), rfl, rfl⟩
          · have hq11 := hq5; rw [if_pos h4] at hq11
            refine rj_aload_n 0 dX7_bestAmong_26 rfl rfl ?_
            refine rj_aload_n 1 dX7_bestAmong_27 rfl rfl ?_
            refine rj_iload_n 2 dX7_bestAmong_28 rfl rfl ?_
            refine rj_iload_n 3 dX7_bestAmong_29 rfl rfl ?_
            refine rj_iconst (v := 1) dX7_bestAmong_30 rfl (by decide) ?_
            refine rj_iadd dX7_bestAmong_31 rfl ?_
            refine rj_cS (rest := []) (ih μ a2 (a3 + 1)  (hq11).1) gX7_bestAmong_X7_bestAmong rfl hSX7_bestAmong ⟨by omega, by omega⟩ dX7_bestAmong_32 rfl rfl rfl (Nat.le_of_ble_eq_true rfl) rfl (Nat.le_of_ble_eq_true rfl) rfl ?_
            exact rj_iret dX7_bestAmong_35 rfl (Nat.le_of_ble_eq_true rfl) (Nat.le_of_ble_eq_true rfl) ⟨(by rw [fX7_bestAmong_s]; rw [if_neg h1]; rw [if_neg h2]; rw [if_pos h3]; rw [if_pos h4]; try rfl), rfl, rfl⟩
        · have hq12 := hq4; rw [if_neg h3] at hq12
          refine rj_iconst (v := 0) dX7_bestAmong_16 rfl (by decide) ?_
          exact rj_iret dX7_bestAmong_17 rfl (Nat.le_of_ble_eq_true rfl) (Nat.le_of_ble_eq_true rfl) ⟨(by rw [fX7_bestAmong_s]; rw [if_neg h1]; rw [if_neg h2]; rw [if_neg h3]; try rfl), rfl, rfl⟩
theorem hSX7_lineup : yX7_lineup.cls ≠ "java/lang/invoke/MethodHandle" ∧ yX7_lineup.cls ≠ "java/lang/invoke/VarHandle" ∧ (parseMethodDescriptor yX7_lineup.desc).map (fun d => d.parameters.length) = some 0 := by decide +kernel
theorem hVX7_lineup : yX7_lineup.cls = RX7 ∧ yX7_lineup.cls ≠ "java/lang/invoke/MethodHandle" ∧ yX7_lineup.cls ≠ "java/lang/invoke/VarHandle" ∧ (parseMethodDescriptor yX7_lineup.desc).map (fun d => d.parameters.length) = some 0 := by decide +kernel
theorem vX7_lineup_7 : ∀ w ∈ u_ws RX7 TX7 8, w ∈ wsX7_lineup := by decide +kernel
theorem kX7_lineup_30 : Cond.fieldLink RX7 30 (TX7 6).1 (TX7 6).2.1 (TX7 6).2.2.1 ∈ wsX7_lineup := by decide +kernel
theorem kX7_lineup_33 : Cond.fieldLink RX7 33 (TX7 7).1 (TX7 7).2.1 (TX7 7).2.2.1 ∈ wsX7_lineup := by decide +kernel
def fX7_lineup (μ : rj_M) : Int32 := ((fX7_bestAmong 17 (mX7_lookAtAll μ) (fX7_numbers (mX7_lookAtAll μ)) 0) &&& (65535))
def mX7_lineup (μ : rj_M) : rj_M := (mX7_lookAtAll μ)
def qX7_lineup (μ : rj_M) : Prop := (qX7_bestAmong 17 (mX7_lookAtAll μ) (fX7_numbers (mX7_lookAtAll μ)) 0 ∧ True)
set_option maxHeartbeats 40000000 in
set_option maxRecDepth 100000 in
theorem sX7_lineup {g : rj_G} {ω : rj_W} (hω : rj_ok ω) (μ : rj_M)   (hq : qX7_lineup μ) : rj_Sp g yX7_lineup wsX7_lineup (rj_rm 19 0) [.ref (ω.2.2 8)] ω μ (rj_D (.inl (some (.int (fX7_lineup μ)))) ω (mX7_lineup μ)) := by
  have hqa := hq
  unfold qX7_lineup at hqa
  refine rj_of' (cc := cX7_lineup) (nL := 1) (ret := (some .int)) (own := RX7) (l0 := [(0, .ref (ω.2.2 8))]) rfl (by decide +kernel) rfl (Nat.le_of_ble_eq_true rfl) rfl ?_
  refine rj_aload_n 0 dX7_lineup_0 rfl rfl ?_
  refine rj_cV (rest := []) (sX7_lookAtAll (g := g) (ω := ω) hω μ   ) gX7_lineup_X7_lookAtAll (rj_lt hω (k := 8) rfl) (rj_sh hω ly_8) rfl rfl hVX7_lookAtAll ⟨Nat.le_of_ble_eq_true rfl, Nat.le_of_ble_eq_true rfl⟩ dX7_lineup_1 rfl rfl rfl (Nat.le_of_ble_eq_true rfl) rfl (Nat.le_of_ble_eq_true rfl) rfl ?_
  refine rj_aload_n 0 dX7_lineup_4 rfl rfl ?_
  refine rj_getR (C0 := RX7) (T := TX7) (N := 8) (j := 6) (r := 15) dX7_lineup_5 rfl vX7_lineup_7 rfl (rj_lt hω (k := 8) rfl) (rj_sh hω ly_8) (by decide) kX7_lineup_30 rfl ?_
  refine rj_aload_n 0 dX7_lineup_8 rfl rfl ?_
  refine rj_getR (C0 := RX7) (T := TX7) (N := 8) (j := 7) (r := 16) dX7_lineup_9 rfl vX7_lineup_7 rfl (rj_lt hω (k := 8) rfl) (rj_sh hω ly_8) (by decide) kX7_lineup_33 rfl ?_
  refine rj_aload_n 0 dX7_lineup_12 rfl rfl ?_
  refine rj_cV (rest := [.ref (ω.2.2 16), .ref (ω.2.2 15)]) (sX7_numbers (g := g) (ω := ω) hω (mX7_lookAtAll μ)   ) gX7_lineup_X7_numbers (rj_lt hω (k := 8) rfl) (rj_sh hω ly_8) rfl rfl hVX7_numbers ⟨Nat.le_of_ble_eq_true rfl, Nat.le_of_ble_eq_true rfl⟩ dX7_lineup_13 rfl rfl rfl (Nat.le_of_ble_eq_true rfl) rfl (Nat.le_of_ble_eq_true rfl) rfl ?_
  refine rj_iconst (v := 0) dX7_lineup_16 rfl (by decide) ?_
  refine rj_cS (rest := []) (sX7_bestAmong (g := g) (ω := ω) hω 17 (mX7_lookAtAll μ) (fX7_numbers (mX7_lookAtAll μ)) 0   (hqa).1) gX7_lineup_X7_bestAmong rfl hSX7_bestAmong ⟨Nat.le_of_ble_eq_true rfl, Nat.le_of_ble_eq_true rfl⟩ dX7_lineup_17 rfl rfl rfl (Nat.le_of_ble_eq_true rfl) rfl (Nat.le_of_ble_eq_true rfl) rfl ?_
  refine rj_ldc (v := (65535)) dX7_lineup_20 rfl (by decide +kernel) ?_
  refine rj_iand dX7_lineup_22 rfl ?_
  exact rj_iret dX7_lineup_23 rfl (Nat.le_of_ble_eq_true rfl) (Nat.le_of_ble_eq_true rfl) ⟨(by unfold fX7_lineup; rfl), rfl, (by unfold mX7_lineup; rfl)⟩
theorem hSX7_bound : yX7_bound.cls ≠ "java/lang/invoke/MethodHandle" ∧ yX7_bound.cls ≠ "java/lang/invoke/VarHandle" ∧ (parseMethodDescriptor yX7_bound.desc).map (fun d => d.parameters.length) = some 0 := by decide +kernel
theorem hVX7_bound : yX7_bound.cls = RX7 ∧ yX7_bound.cls ≠ "java/lang/invoke/MethodHandle" ∧ yX7_bound.cls ≠ "java/lang/invoke/VarHandle" ∧ (parseMethodDescriptor yX7_bound.desc).map (fun d => d.parameters.length) = some 0 := by decide +kernel
theorem vX7_bound_7 : ∀ w ∈ u_ws RX7 TX7 8, w ∈ wsX7_bound := by decide +kernel
theorem kX7_bound_30 : Cond.fieldLink RX7 30 (TX7 6).1 (TX7 6).2.1 (TX7 6).2.2.1 ∈ wsX7_bound := by decide +kernel
theorem kX7_bound_33 : Cond.fieldLink RX7 33 (TX7 7).1 (TX7 7).2.1 (TX7 7).2.2.1 ∈ wsX7_bound := by decide +kernel
def bX7_bound_8 (μ : rj_M) (j8 : Nat) (s8 : Int32) : Int32 := (s8 + ((fX7_bestAmong 17 (mX7_lookAtAll μ) (fX7_numbersOn (mX7_lookAtAll μ) (nI j8)) 0) >>> (16 &&& 31)))
def qX7_bound_8 (μ : rj_M) (j8 : Nat) (s8 : Int32) : Prop := (qX7_bestAmong 17 (mX7_lookAtAll μ) (fX7_numbersOn (mX7_lookAtAll μ) (nI j8)) 0 ∧ True)
set_option maxHeartbeats 4000000 in
set_option maxRecDepth 100000 in
theorem lX7_bound_8 {g : rj_G} {ω : rj_W} (hω : rj_ok ω) (μ : rj_M)      {F : rj_F} : ∀ (r j : Nat) (s : Int32), j + r = 4 → rq_fo (qX7_bound_8 μ) (bX7_bound_8 μ) r j s → (rj_R g RX7 cX7_bound 3 (some .int) wsX7_bound [] (rj_rm 19 0) F 0 ω (mX7_lookAtAll μ) [(0, .ref (ω.2.2 8)), (1, .int (rj_fo (bX7_bound_8 μ) r j s)), (2, .int (nI 4))] 42 []) → rj_R g RX7 cX7_bound 3 (some .int) wsX7_bound [] (rj_rm 19 0) F 0 ω (mX7_lookAtAll μ) [(0, .ref (ω.2.2 8)), (1, .int s), (2, .int (nI j))] 8 [] := by
  intro r
  induction r with
  | zero =>
    intro j s hj hq0 K
    have e0 : j = 4 := by omega
    have hge : 4 ≤ nI j := by
      rw [e0]
      exact Int32.le_refl _
    refine rj_iload_n 2 dX7_bound_8 rfl rfl ?_
    refine rj_iconst (v := 4) dX7_bound_9 rfl (by decide) ?_
    refine rj_icmp_ge dX7_bound_10 rfl rfl (fun h2 => ?_) (fun h2 => ?_)
    · have e1 : nI j = nI 4 := by rw [e0]
      rw [e1]
      exact K
    · exact absurd hge h2
  | succ r ih =>
    intro j8 s8 hj hq0 K
    have hl8 : j8 < 4 := by omega
    have hg8 : ¬ 4 ≤ nI j8 := nI_ge hl8 (rj_bl rfl)
    rw [rq_fo_s] at hq0
    have hqa := hq0.1
    have hqn := hq0.2
    unfold qX7_bound_8 at hqa
    refine rj_iload_n 2 dX7_bound_8 rfl rfl ?_
    refine rj_iconst (v := 4) dX7_bound_9 rfl (by decide) ?_
    refine rj_icmp_ge dX7_bound_10 rfl rfl (fun h1 => ?_) (fun h1 => ?_)
    · exact absurd h1 hg8
    · refine rj_iload_n 1 dX7_bound_13 rfl rfl ?_
      refine rj_aload_n 0 dX7_bound_14 rfl rfl ?_
      refine rj_getR (C0 := RX7) (T := TX7) (N := 8) (j := 6) (r := 15) dX7_bound_15 rfl vX7_bound_7 rfl (rj_lt hω (k := 8) rfl) (rj_sh hω ly_8) (by decide) kX7_bound_30 rfl ?_
      refine rj_aload_n 0 dX7_bound_18 rfl rfl ?_
      refine rj_getR (C0 := RX7) (T := TX7) (N := 8) (j := 7) (r := 16) dX7_bound_19 rfl vX7_bound_7 rfl (rj_lt hω (k := 8) rfl) (rj_sh hω ly_8) (by decide) kX7_bound_33 rfl ?_
      refine rj_aload_n 0 dX7_bound_22 rfl rfl ?_
      refine rj_iload_n 2 dX7_bound_23 rfl rfl ?_
      refine rj_cV (rest := [.ref (ω.2.2 16), .ref (ω.2.2 15), .int s8]) (sX7_numbersOn (g := g) (ω := ω) hω (mX7_lookAtAll μ) (nI j8)   ) gX7_bound_X7_numbersOn (rj_lt hω (k := 8) rfl) (rj_sh hω ly_8) rfl rfl hVX7_numbersOn ⟨Nat.le_of_ble_eq_true rfl, Nat.le_of_ble_eq_true rfl⟩ dX7_bound_24 rfl rfl rfl (Nat.le_of_ble_eq_true rfl) rfl (Nat.le_of_ble_eq_true rfl) rfl ?_
      refine rj_iconst (v := 0) dX7_bound_27 rfl (by decide) ?_
      refine rj_cS (rest := [.int s8]) (sX7_bestAmong (g := g) (ω := ω) hω 17 (mX7_lookAtAll μ) (fX7_numbersOn (mX7_lookAtAll μ) (nI j8)) 0   (hqa).1) gX7_bound_X7_bestAmong rfl hSX7_bestAmong ⟨Nat.le_of_ble_eq_true rfl, Nat.le_of_ble_eq_true rfl⟩ dX7_bound_28 rfl rfl rfl (Nat.le_of_ble_eq_true rfl) rfl (Nat.le_of_ble_eq_true rfl) rfl ?_
      refine rj_bipush (v := 16) dX7_bound_31 rfl (by decide) ?_
      refine rj_ishr dX7_bound_33 rfl ?_
      refine rj_iadd dX7_bound_34 rfl ?_
      refine rj_istore_n (l' := [(1, .int (s8 + ((fX7_bestAmong 17 (mX7_lookAtAll μ) (fX7_numbersOn (mX7_lookAtAll μ) (nI j8)) 0) >>> (16 &&& 31)))), (0, .ref (ω.2.2 8)), (2, .int (nI j8))]) dX7_bound_35 rfl (rj_bl rfl) rfl ?_
      refine rj_iinc (v := nI (j8 + 1)) (l' := [(2, .int (nI (j8 + 1))), (1, .int (s8 + ((fX7_bestAmong 17 (mX7_lookAtAll μ) (fX7_numbersOn (mX7_lookAtAll μ) (nI j8)) 0) >>> (16 &&& 31)))), (0, .ref (ω.2.2 8))]) 2 dX7_bound_36 rfl rfl (nI_succ j8).symm (rj_bl rfl) rfl ?_
      refine rj_goto dX7_bound_39 rfl ?_
      have e : bX7_bound_8 μ j8 s8 = (s8 + ((fX7_bestAmong 17 (mX7_lookAtAll μ) (fX7_numbersOn (mX7_lookAtAll μ) (nI j8)) 0) >>> (16 &&& 31))) := by unfold bX7_bound_8; rfl
      exact rj_sub (l' := [(0, .ref (ω.2.2 8)), (1, .int (s8 + ((fX7_bestAmong 17 (mX7_lookAtAll μ) (fX7_numbersOn (mX7_lookAtAll μ) (nI j8)) 0) >>> (16 &&& 31)))), (2, .int (nI (j8 + 1)))]) [2, 1, 0] rfl (ih (j8 + 1) (s8 + ((fX7_bestAmong 17 (mX7_lookAtAll μ) (fX7_numbersOn (mX7_lookAtAll μ) (nI j8)) 0) >>> (16 &&& 31))) (by omega) (by have hz := hqn; rw [e] at hz; exact hz) (by rw [rj_fo_s, e] at K; exact K))
def fX7_bound (μ : rj_M) : Int32 := (rj_fo (bX7_bound_8 μ) 4 0 0)
def mX7_bound (μ : rj_M) : rj_M := (mX7_lookAtAll μ)
def qX7_bound (μ : rj_M) : Prop := (rq_fo (qX7_bound_8 μ) (bX7_bound_8 μ) 4 0 0 ∧ True)
set_option maxHeartbeats 40000000 in
set_option maxRecDepth 100000 in
theorem sX7_bound {g : rj_G} {ω : rj_W} (hω : rj_ok ω) (μ : rj_M)   (hq : qX7_bound μ) : rj_Sp g yX7_bound wsX7_bound (rj_rm 19 0) [.ref (ω.2.2 8)] ω μ (rj_D (.inl (some (.int (fX7_bound μ)))) ω (mX7_bound μ)) := by
  have hqa := hq
  unfold qX7_bound at hqa
  refine rj_of' (cc := cX7_bound) (nL := 3) (ret := (some .int)) (own := RX7) (l0 := [(0, .ref (ω.2.2 8))]) rfl (by decide +kernel) rfl (Nat.le_of_ble_eq_true rfl) rfl ?_
  refine rj_aload_n 0 dX7_bound_0 rfl rfl ?_
  refine rj_cV (rest := []) (sX7_lookAtAll (g := g) (ω := ω) hω μ   ) gX7_bound_X7_lookAtAll (rj_lt hω (k := 8) rfl) (rj_sh hω ly_8) rfl rfl hVX7_lookAtAll ⟨Nat.le_of_ble_eq_true rfl, Nat.le_of_ble_eq_true rfl⟩ dX7_bound_1 rfl rfl rfl (Nat.le_of_ble_eq_true rfl) rfl (Nat.le_of_ble_eq_true rfl) rfl ?_
  refine rj_iconst (v := 0) dX7_bound_4 rfl (by decide) ?_
  refine rj_istore_n (l' := [(1, .int 0), (0, .ref (ω.2.2 8))]) dX7_bound_5 rfl (rj_bl rfl) rfl ?_
  refine rj_iconst (v := 0) dX7_bound_6 rfl (by decide) ?_
  refine rj_istore_n (l' := [(2, .int 0), (1, .int 0), (0, .ref (ω.2.2 8))]) dX7_bound_7 rfl (rj_bl rfl) rfl ?_
  refine rj_sub (l' := [(0, .ref (ω.2.2 8)), (1, .int 0), (2, .int (nI 0))]) [2, 1, 0] rfl ?_
  refine lX7_bound_8 hω μ      4 0 0 rfl (hqa).1 ?_
  refine rj_iload_n 1 dX7_bound_42 rfl rfl ?_
  exact rj_iret dX7_bound_43 rfl (Nat.le_of_ble_eq_true rfl) (Nat.le_of_ble_eq_true rfl) ⟨(by unfold fX7_bound; rfl), rfl, (by unfold mX7_bound; rfl)⟩
theorem hSX11_actAt : yX11_actAt.cls ≠ "java/lang/invoke/MethodHandle" ∧ yX11_actAt.cls ≠ "java/lang/invoke/VarHandle" ∧ (parseMethodDescriptor yX11_actAt.desc).map (fun d => d.parameters.length) = some 2 := by decide +kernel
theorem hVX11_actAt : yX11_actAt.cls = RX11 ∧ yX11_actAt.cls ≠ "java/lang/invoke/MethodHandle" ∧ yX11_actAt.cls ≠ "java/lang/invoke/VarHandle" ∧ (parseMethodDescriptor yX11_actAt.desc).map (fun d => d.parameters.length) = some 2 := by decide +kernel
theorem vX11_actAt_11 : ∀ w ∈ u_ws RX11 TX11 6, w ∈ wsX11_actAt := by decide +kernel
theorem kX11_actAt_12 : Cond.fieldLink RX11 12 (TX11 0).1 (TX11 0).2.1 (TX11 0).2.2.1 ∈ wsX11_actAt := by decide +kernel
theorem vX11_actAt_5 : ∀ w ∈ u_ws RX5 TX5 8, w ∈ wsX11_actAt := by decide +kernel
theorem kX11_actAt_26 : Cond.fieldLink RX11 26 (TX5 2).1 (TX5 2).2.1 (TX5 2).2.2.1 ∈ wsX11_actAt := by decide +kernel
def fX11_actAt (μ : rj_M) (a0 : Int32) (a1 : Int32) : Int32 ⊕ String := (rj_bx (fX11_needAct μ a0) (rj_bx (fX11_needRange μ a1 0 6) (if a1 = 6 then (.inl (((fX7_lineup μ) >>> (a0 &&& 31)) &&& 1)) else (.inl (fX7_partOf μ a0 a1)))))
def mX11_actAt (μ : rj_M) (a0 : Int32) (a1 : Int32) : rj_M := (rj_bm (fX11_needAct μ a0) (rj_bm (fX11_needRange μ a1 0 6) (if a1 = 6 then (mX7_lineup μ) else μ) μ) μ)
def qX11_actAt (μ : rj_M) (a0 : Int32) (a1 : Int32) : Prop := (rq_bx (fX11_needAct μ a0) (rq_bx (fX11_needRange μ a1 0 6) (if a1 = 6 then (qX7_lineup μ ∧ True) else True)))
set_option maxHeartbeats 40000000 in
set_option maxRecDepth 100000 in
theorem sX11_actAt {g : rj_G} {ω : rj_W} (hω : rj_ok ω) (μ : rj_M) (a0 : Int32) (a1 : Int32)   (hq : qX11_actAt μ a0 a1) : rj_Sp g yX11_actAt wsX11_actAt (rj_rm 20 2) [.ref (ω.2.2 0), .int a0, .int a1] ω μ (rj_D (rj_oi (fX11_actAt μ a0 a1)) ω (mX11_actAt μ a0 a1)) := by
  have hqa := hq
  unfold qX11_actAt at hqa
  refine rj_of' (cc := cX11_actAt) (nL := 3) (ret := (some .int)) (own := RX11) (l0 := [(0, .ref (ω.2.2 0)), (1, .int a0), (2, .int a1)]) rfl (by decide +kernel) rfl (Nat.le_of_ble_eq_true rfl) rfl ?_
  refine rj_aload_n 0 dX11_actAt_0 rfl rfl ?_
  refine rj_iload_n 1 dX11_actAt_1 rfl rfl ?_
  refine rj_cVx (rest := []) (sX11_needAct (g := g) (ω := ω) hω μ a0   ) gX11_actAt_X11_needAct (rj_lt hω (k := 0) rfl) (rj_sh hω ly_0) rfl rfl hVX11_needAct ⟨Nat.le_of_ble_eq_true rfl, Nat.le_of_ble_eq_true rfl⟩ dX11_actAt_2 rfl rfl rfl (Nat.le_of_ble_eq_true rfl) rfl (Nat.le_of_ble_eq_true rfl) (fun E hE2 => ?_) (fun hx1 => ?_)
  · exact ⟨(by unfold fX11_actAt; try (rw [hE2]); try (simp only [rj_bx]); try rfl), rfl, (by unfold mX11_actAt; try (rw [hE2]); try (simp only [rj_bm]); try rfl)⟩
  · have hq1 := hqa; rw [hx1] at hq1; simp only [rq_bx] at hq1
    refine rj_iload_n 2 dX11_actAt_5 rfl rfl ?_
    refine rj_iconst (v := 0) dX11_actAt_6 rfl (by decide) ?_
    refine rj_bipush (v := 6) dX11_actAt_7 rfl (by decide) ?_
    refine rj_cSx (rest := []) (sX11_needRange (g := g) (ω := ω) hω μ a1 0 6   ) gX11_actAt_X11_needRange rfl hSX11_needRange ⟨Nat.le_of_ble_eq_true rfl, Nat.le_of_ble_eq_true rfl⟩ dX11_actAt_9 rfl rfl rfl (Nat.le_of_ble_eq_true rfl) rfl (Nat.le_of_ble_eq_true rfl) (fun E hE4 => ?_) (fun hx3 => ?_)
    · exact ⟨(by unfold fX11_actAt; try (rw [hx1]); try (simp only [rj_bx]); try (rw [hE4]); try (simp only [rj_bx]); try rfl), rfl, (by unfold mX11_actAt; try (rw [hx1]); try (simp only [rj_bm]); try (rw [hE4]); try (simp only [rj_bm]); try rfl)⟩
    · have hq2 := hq1; rw [hx3] at hq2; simp only [rq_bx] at hq2
      refine rj_iload_n 2 dX11_actAt_12 rfl rfl ?_
      refine rj_bipush (v := 6) dX11_actAt_13 rfl (by decide) ?_
      refine rj_icmp_ne dX11_actAt_15 rfl rfl (fun h5 => ?_) (fun h5 => ?_)
      · have hq3 := hq2; rw [if_neg h5] at hq3
        refine rj_aload_n 0 dX11_actAt_33 rfl rfl ?_
        refine rj_getR (C0 := RX11) (T := TX11) (N := 6) (j := 0) (r := 1) dX11_actAt_34 rfl vX11_actAt_11 rfl (rj_lt hω (k := 0) rfl) (rj_sh hω ly_0) (by decide) kX11_actAt_12 rfl ?_
        refine rj_getR (C0 := RX5) (T := TX5) (N := 8) (j := 2) (r := 8) dX11_actAt_37 rfl vX11_actAt_5 rfl (rj_lt hω (k := 1) rfl) (rj_sh hω ly_1) (by decide) kX11_actAt_26 rfl ?_
        refine rj_iload_n 1 dX11_actAt_40 rfl rfl ?_
        refine rj_iload_n 2 dX11_actAt_41 rfl rfl ?_
        refine rj_cV (rest := []) (sX7_partOf (g := g) (ω := ω) hω μ a0 a1   ) gX11_actAt_X7_partOf (rj_lt hω (k := 8) rfl) (rj_sh hω ly_8) rfl rfl hVX7_partOf ⟨Nat.le_of_ble_eq_true rfl, Nat.le_of_ble_eq_true rfl⟩ dX11_actAt_42 rfl rfl rfl (Nat.le_of_ble_eq_true rfl) rfl (Nat.le_of_ble_eq_true rfl) rfl ?_
        exact rj_iret dX11_actAt_45 rfl (Nat.le_of_ble_eq_true rfl) (Nat.le_of_ble_eq_true rfl) ⟨(by unfold fX11_actAt; try (rw [hx1]); try (simp only [rj_bx]); try (rw [hx3]); try (simp only [rj_bx]); try (rw [if_neg h5]); try rfl), rfl, (by unfold mX11_actAt; try (rw [hx1]); try (simp only [rj_bm]); try (rw [hx3]); try (simp only [rj_bm]); try (rw [if_neg h5]); try rfl)⟩
      · have hq4 := hq2; rw [if_pos h5] at hq4
        refine rj_aload_n 0 dX11_actAt_18 rfl rfl ?_
        refine rj_getR (C0 := RX11) (T := TX11) (N := 6) (j := 0) (r := 1) dX11_actAt_19 rfl vX11_actAt_11 rfl (rj_lt hω (k := 0) rfl) (rj_sh hω ly_0) (by decide) kX11_actAt_12 rfl ?_
        refine rj_getR (C0 := RX5) (T := TX5) (N := 8) (j := 2) (r := 8) dX11_actAt_22 rfl vX11_actAt_5 rfl (rj_lt hω (k := 1) rfl) (rj_sh hω ly_1) (by decide) kX11_actAt_26 rfl ?_
        refine rj_cV (rest := []) (sX7_lineup (g := g) (ω := ω) hω μ   (hq4).1) gX11_actAt_X7_lineup (rj_lt hω (k := 8) rfl) (rj_sh hω ly_8) rfl rfl hVX7_lineup ⟨Nat.le_of_ble_eq_true rfl, Nat.le_of_ble_eq_true rfl⟩ dX11_actAt_25 rfl rfl rfl (Nat.le_of_ble_eq_true rfl) rfl (Nat.le_of_ble_eq_true rfl) rfl ?_
        refine rj_iload_n 1 dX11_actAt_28 rfl rfl ?_
        refine rj_ishr dX11_actAt_29 rfl ?_
        refine rj_iconst (v := 1) dX11_actAt_30 rfl (by decide) ?_
        refine rj_iand dX11_actAt_31 rfl ?_
        exact rj_iret dX11_actAt_32 rfl (Nat.le_of_ble_eq_true rfl) (Nat.le_of_ble_eq_true rfl) ⟨(by unfold fX11_actAt; try (rw [hx1]); try (simp only [rj_bx]); try (rw [hx3]); try (simp only [rj_bx]); try (rw [if_pos h5]); try rfl), rfl, (by unfold mX11_actAt; try (rw [hx1]); try (simp only [rj_bm]); try (rw [hx3]); try (simp only [rj_bm]); try (rw [if_pos h5]); try rfl)⟩
theorem hSX11_pleased : yX11_pleased.cls ≠ "java/lang/invoke/MethodHandle" ∧ yX11_pleased.cls ≠ "java/lang/invoke/VarHandle" ∧ (parseMethodDescriptor yX11_pleased.desc).map (fun d => d.parameters.length) = some 1 := by decide +kernel
theorem hVX11_pleased : yX11_pleased.cls = RX11 ∧ yX11_pleased.cls ≠ "java/lang/invoke/MethodHandle" ∧ yX11_pleased.cls ≠ "java/lang/invoke/VarHandle" ∧ (parseMethodDescriptor yX11_pleased.desc).map (fun d => d.parameters.length) = some 1 := by decide +kernel
theorem vX11_pleased_11 : ∀ w ∈ u_ws RX11 TX11 6, w ∈ wsX11_pleased := by decide +kernel
theorem kX11_pleased_12 : Cond.fieldLink RX11 12 (TX11 0).1 (TX11 0).2.1 (TX11 0).2.2.1 ∈ wsX11_pleased := by decide +kernel
theorem vX11_pleased_5 : ∀ w ∈ u_ws RX5 TX5 8, w ∈ wsX11_pleased := by decide +kernel
theorem kX11_pleased_26 : Cond.fieldLink RX11 26 (TX5 2).1 (TX5 2).2.1 (TX5 2).2.2.1 ∈ wsX11_pleased := by decide +kernel
def fX11_pleased (μ : rj_M) (a0 : Int32) : Int32 := (if a0 = 0 then (fX7_pleasingOfAll (mX7_lineup μ) (fX7_lineup μ)) else (fX7_bound μ))
def mX11_pleased (μ : rj_M) (a0 : Int32) : rj_M := (if a0 = 0 then (mX7_lineup μ) else (mX7_bound μ))
def qX11_pleased (μ : rj_M) (a0 : Int32) : Prop := (if a0 = 0 then (qX7_lineup μ ∧ True) else (qX7_bound μ ∧ True))
set_option maxHeartbeats 40000000 in
set_option maxRecDepth 100000 in
theorem sX11_pleased {g : rj_G} {ω : rj_W} (hω : rj_ok ω) (μ : rj_M) (a0 : Int32)   (hq : qX11_pleased μ a0) : rj_Sp g yX11_pleased wsX11_pleased (rj_rm 20 0) [.ref (ω.2.2 0), .int a0] ω μ (rj_D (.inl (some (.int (fX11_pleased μ a0)))) ω (mX11_pleased μ a0)) := by
  have hqa := hq
  unfold qX11_pleased at hqa
  refine rj_of' (cc := cX11_pleased) (nL := 2) (ret := (some .int)) (own := RX11) (l0 := [(0, .ref (ω.2.2 0)), (1, .int a0)]) rfl (by decide +kernel) rfl (Nat.le_of_ble_eq_true rfl) rfl ?_
  refine rj_iload_n 1 dX11_pleased_0 rfl rfl ?_
  refine rj_if_eq dX11_pleased_1 rfl rfl (fun h1 => ?_) (fun h1 => ?_)
  · have hq1 := hqa; rw [if_pos h1] at hq1
    refine rj_aload_n 0 dX11_pleased_15 rfl rfl ?_
    refine rj_getR (C0 := RX11) (T := TX11) (N := 6) (j := 0) (r := 1) dX11_pleased_16 rfl vX11_pleased_11 rfl (rj_lt hω (k := 0) rfl) (rj_sh hω ly_0) (by decide) kX11_pleased_12 rfl ?_
    refine rj_getR (C0 := RX5) (T := TX5) (N := 8) (j := 2) (r := 8) dX11_pleased_19 rfl vX11_pleased_5 rfl (rj_lt hω (k := 1) rfl) (rj_sh hω ly_1) (by decide) kX11_pleased_26 rfl ?_
    refine rj_aload_n 0 dX11_pleased_22 rfl rfl ?_
    refine rj_getR (C0 := RX11) (T := TX11) (N := 6) (j := 0) (r := 1) dX11_pleased_23 rfl vX11_pleased_11 rfl (rj_lt hω (k := 0) rfl) (rj_sh hω ly_0) (by decide) kX11_pleased_12 rfl ?_
    refine rj_getR (C0 := RX5) (T := TX5) (N := 8) (j := 2) (r := 8) dX11_pleased_26 rfl vX11_pleased_5 rfl (rj_lt hω (k := 1) rfl) (rj_sh hω ly_1) (by decide) kX11_pleased_26 rfl ?_
    refine rj_cV (rest := [.ref (ω.2.2 8)]) (sX7_lineup (g := g) (ω := ω) hω μ   (hq1).1) gX11_pleased_X7_lineup (rj_lt hω (k := 8) rfl) (rj_sh hω ly_8) rfl rfl hVX7_lineup ⟨Nat.le_of_ble_eq_true rfl, Nat.le_of_ble_eq_true rfl⟩ dX11_pleased_29 rfl rfl rfl (Nat.le_of_ble_eq_true rfl) rfl (Nat.le_of_ble_eq_true rfl) rfl ?_
    refine rj_cV (rest := []) (sX7_pleasingOfAll (g := g) (ω := ω) hω (mX7_lineup μ) (fX7_lineup μ)   ) gX11_pleased_X7_pleasingOfAll (rj_lt hω (k := 8) rfl) (rj_sh hω ly_8) rfl rfl hVX7_pleasingOfAll ⟨Nat.le_of_ble_eq_true rfl, Nat.le_of_ble_eq_true rfl⟩ dX11_pleased_32 rfl rfl rfl (Nat.le_of_ble_eq_true rfl) rfl (Nat.le_of_ble_eq_true rfl) rfl ?_
    exact rj_iret dX11_pleased_35 rfl (Nat.le_of_ble_eq_true rfl) (Nat.le_of_ble_eq_true rfl) ⟨(by unfold fX11_pleased; rw [if_pos h1]; try rfl), rfl, (by unfold mX11_pleased; rw [if_pos h1]; try rfl)⟩
  · have hq2 := hqa; rw [if_neg h1] at hq2
    refine rj_aload_n 0 dX11_pleased_4 rfl rfl ?_
    refine rj_getR (C0 := RX11) (T := TX11) (N := 6) (j := 0) (r := 1) dX11_pleased_5 rfl vX11_pleased_11 rfl (rj_lt hω (k := 0) rfl) (rj_sh hω ly_0) (by decide) kX11_pleased_12 rfl ?_
    refine rj_getR (C0 := RX5) (T := TX5) (N := 8) (j := 2) (r := 8) dX11_pleased_8 rfl vX11_pleased_5 rfl (rj_lt hω (k := 1) rfl) (rj_sh hω ly_1) (by decide) kX11_pleased_26 rfl ?_
    refine rj_cV (rest := []) (sX7_bound (g := g) (ω := ω) hω μ   (hq2).1) gX11_pleased_X7_bound (rj_lt hω (k := 8) rfl) (rj_sh hω ly_8) rfl rfl hVX7_bound ⟨Nat.le_of_ble_eq_true rfl, Nat.le_of_ble_eq_true rfl⟩ dX11_pleased_11 rfl rfl rfl (Nat.le_of_ble_eq_true rfl) rfl (Nat.le_of_ble_eq_true rfl) rfl ?_
    exact rj_iret dX11_pleased_14 rfl (Nat.le_of_ble_eq_true rfl) (Nat.le_of_ble_eq_true rfl) ⟨(by unfold fX11_pleased; rw [if_neg h1]; try rfl), rfl, (by unfold mX11_pleased; rw [if_neg h1]; try rfl)⟩
theorem hSX11_meanEvening : yX11_meanEvening.cls ≠ "java/lang/invoke/MethodHandle" ∧ yX11_meanEvening.cls ≠ "java/lang/invoke/VarHandle" ∧ (parseMethodDescriptor yX11_meanEvening.desc).map (fun d => d.parameters.length) = some 1 := by decide +kernel
theorem hVX11_meanEvening : yX11_meanEvening.cls = RX11 ∧ yX11_meanEvening.cls ≠ "java/lang/invoke/MethodHandle" ∧ yX11_meanEvening.cls ≠ "java/lang/invoke/VarHandle" ∧ (parseMethodDescriptor yX11_meanEvening.desc).map (fun d => d.parameters.length) = some 1 := by decide +kernel
theorem vX11_meanEvening_11 : ∀ w ∈ u_ws RX11 TX11 6, w ∈ wsX11_meanEvening := by decide +kernel
theorem kX11_meanEvening_33 : Cond.fieldLink RX11 33 (TX11 2).1 (TX11 2).2.1 (TX11 2).2.2.1 ∈ wsX11_meanEvening := by decide +kernel
def bX11_meanEvening_9 (μ : rj_M) (a0 : Int32) (j9 : Nat) (s9 : Int32 × rj_M) : (Int32 × rj_M) := ((s9.1 + (fX2_weightOn (mX2_planFor s9.2 (nI j9)) a0)), (mX2_planFor s9.2 (nI j9)))
set_option maxHeartbeats 4000000 in
set_option maxRecDepth 100000 in
theorem lX11_meanEvening_9 {g : rj_G} {ω : rj_W} (hω : rj_ok ω) (μ : rj_M) (a0 : Int32)     (hx1 : ((fX11_needPlace μ a0 4) = none)) {F : rj_F} : ∀ (r j : Nat) (s : Int32 × rj_M), j + r = 12 → (rj_R g RX11 cX11_meanEvening 4 (some .double) wsX11_meanEvening [] (rj_rm 7 1) F 1 ω ((rj_fo (bX11_meanEvening_9 μ a0) r j s).2) [(0, .ref (ω.2.2 0)), (1, .int a0), (2, .int ((rj_fo (bX11_meanEvening_9 μ a0) r j s).1)), (3, .int (nI 12))] 40 []) → rj_R g RX11 cX11_meanEvening 4 (some .double) wsX11_meanEvening [] (rj_rm 7 1) F 1 ω s.2 [(0, .ref (ω.2.2 0)), (1, .int a0), (2, .int s.1), (3, .int (nI j))] 9 [] := by
  intro r
  induction r with
  | zero =>
    intro j s hj K
    have e0 : j = 12 := by omega
    have hge : 12 ≤ nI j := by
      rw [e0]
      exact Int32.le_refl _
    refine rj_iload_n 3 dX11_meanEvening_9 rfl rfl ?_
    refine rj_bipush (v := 12) dX11_meanEvening_10 rfl (by decide) ?_
    refine rj_icmp_ge dX11_meanEvening_12 rfl rfl (fun h4 => ?_) (fun h4 => ?_)
    · have e1 : nI j = nI 12 := by rw [e0]
      rw [e1]
      exact K
    · exact absurd hge h4
  | succ r ih =>
    intro j9 s9 hj K
    have hl9 : j9 < 12 := by omega
    have hg9 : ¬ 12 ≤ nI j9 := nI_ge hl9 (rj_bl rfl)
    refine rj_iload_n 3 dX11_meanEvening_9 rfl rfl ?_
    refine rj_bipush (v := 12) dX11_meanEvening_10 rfl (by decide) ?_
    refine rj_icmp_ge dX11_meanEvening_12 rfl rfl (fun h3 => ?_) (fun h3 => ?_)
    · exact absurd h3 hg9
    · refine rj_aload_n 0 dX11_meanEvening_15 rfl rfl ?_
      refine rj_getR (C0 := RX11) (T := TX11) (N := 6) (j := 2) (r := 45) dX11_meanEvening_16 rfl vX11_meanEvening_11 rfl (rj_lt hω (k := 0) rfl) (rj_sh hω ly_0) (by decide) kX11_meanEvening_33 rfl ?_
      refine rj_iload_n 3 dX11_meanEvening_19 rfl rfl ?_
      refine rj_cV (rest := []) (sX2_planFor (g := g) (ω := ω) hω s9.2 (nI j9)   ) gX11_meanEvening_X2_planFor (rj_lt hω (k := 45) rfl) (rj_sh hω ly_45) rfl rfl hVX2_planFor ⟨Nat.le_of_ble_eq_true rfl, Nat.le_of_ble_eq_true rfl⟩ dX11_meanEvening_20 rfl rfl rfl (Nat.le_of_ble_eq_true rfl) rfl (Nat.le_of_ble_eq_true rfl) rfl ?_
      refine rj_iload_n 2 dX11_meanEvening_23 rfl rfl ?_
      refine rj_aload_n 0 dX11_meanEvening_24 rfl rfl ?_
      refine rj_getR (C0 := RX11) (T := TX11) (N := 6) (j := 2) (r := 45) dX11_meanEvening_25 rfl vX11_meanEvening_11 rfl (rj_lt hω (k := 0) rfl) (rj_sh hω ly_0) (by decide) kX11_meanEvening_33 rfl ?_
      refine rj_iload_n 1 dX11_meanEvening_28 rfl rfl ?_
      refine rj_cV (rest := [.int s9.1]) (sX2_weightOn (g := g) (ω := ω) hω (mX2_planFor s9.2 (nI j9)) a0   ) gX11_meanEvening_X2_weightOn (rj_lt hω (k := 45) rfl) (rj_sh hω ly_45) rfl rfl hVX2_weightOn ⟨Nat.le_of_ble_eq_true rfl, Nat.le_of_ble_eq_true rfl⟩ dX11_meanEvening_29 rfl rfl rfl (Nat.le_of_ble_eq_true rfl) rfl (Nat.le_of_ble_eq_true rfl) rfl ?_
      refine rj_iadd dX11_meanEvening_32 rfl ?_
      refine rj_istore_n (l' := [(2, .int (s9.1 + (fX2_weightOn (mX2_planFor s9.2 (nI j9)) a0))), (0, .ref (ω.2.2 0)), (1, .int a0), (3, .int (nI j9))]) dX11_meanEvening_33 rfl (rj_bl rfl) rfl ?_
      refine rj_iinc (v := nI (j9 + 1)) (l' := [(3, .int (nI (j9 + 1))), (2, .int (s9.1 + (fX2_weightOn (mX2_planFor s9.2 (nI j9)) a0))), (0, .ref (ω.2.2 0)), (1, .int a0)]) 3 dX11_meanEvening_34 rfl rfl (nI_succ j9).symm (rj_bl rfl) rfl ?_
      refine rj_goto dX11_meanEvening_37 rfl ?_
      have e : bX11_meanEvening_9 μ a0 j9 s9 = ((s9.1 + (fX2_weightOn (mX2_planFor s9.2 (nI j9)) a0)), (mX2_planFor s9.2 (nI j9))) := by unfold bX11_meanEvening_9; rfl
      exact rj_sub (l' := [(0, .ref (ω.2.2 0)), (1, .int a0), (2, .int (s9.1 + (fX2_weightOn (mX2_planFor s9.2 (nI j9)) a0))), (3, .int (nI (j9 + 1)))]) [2, 3, 1, 0] rfl (ih (j9 + 1) ((s9.1 + (fX2_weightOn (mX2_planFor s9.2 (nI j9)) a0)), (mX2_planFor s9.2 (nI j9))) (by omega) (by rw [rj_fo_s, e] at K; exact K))
set_option maxHeartbeats 4000000 in
theorem lX11_meanEvening_9u {g : rj_G} {ω : rj_W} (hω : rj_ok ω) (μ : rj_M) (a0 : Int32)     (hx1 : ((fX11_needPlace μ a0 4) = none)) {F : rj_F} : ∀ (r j : Nat) (c0 : Int32) (c1 : rj_M), j + r = 12 → (rj_R g RX11 cX11_meanEvening 4 (some .double) wsX11_meanEvening [] (rj_rm 7 1) F 1 ω ((rj_fo (bX11_meanEvening_9 μ a0) r j (c0, c1)).2) [(0, .ref (ω.2.2 0)), (1, .int a0), (2, .int ((rj_fo (bX11_meanEvening_9 μ a0) r j (c0, c1)).1)), (3, .int (nI 12))] 40 []) → rj_R g RX11 cX11_meanEvening 4 (some .double) wsX11_meanEvening [] (rj_rm 7 1) F 1 ω c1 [(0, .ref (ω.2.2 0)), (1, .int a0), (2, .int c0), (3, .int (nI j))] 9 [] := fun r j c0 c1 => lX11_meanEvening_9 hω μ a0     hx1 r j (c0, c1)
def fX11_meanEvening (μ : rj_M) (a0 : Int32) : UInt64 ⊕ String := (rj_bx (fX11_needPlace μ a0 4) (.inl (FP.ddiv (FP.i2d ((rj_fo (bX11_meanEvening_9 μ a0) 12 0 (0, μ)).1)) (4622945017495814144 : UInt64))))
def mX11_meanEvening (μ : rj_M) (a0 : Int32) : rj_M := (rj_bm (fX11_needPlace μ a0 4) (rj_fo (bX11_meanEvening_9 μ a0) 12 0 (0, μ)).2 μ)
def qX11_meanEvening (μ : rj_M) (a0 : Int32) : Prop := (rq_bx (fX11_needPlace μ a0 4) (vf_n64 (FP.ddiv (FP.i2d ((rj_fo (bX11_meanEvening_9 μ a0) 12 0 (0, μ)).1)) (4622945017495814144 : UInt64)) ∧ True))
set_option maxHeartbeats 40000000 in
set_option maxRecDepth 100000 in
theorem sX11_meanEvening {g : rj_G} {ω : rj_W} (hω : rj_ok ω) (μ : rj_M) (a0 : Int32)   (hq : qX11_meanEvening μ a0) : rj_Sp g yX11_meanEvening wsX11_meanEvening (rj_rm 7 1) [.ref (ω.2.2 0), .int a0] ω μ (rj_D (rj_od (fX11_meanEvening μ a0)) ω (mX11_meanEvening μ a0)) := by
  have hqa := hq
  unfold qX11_meanEvening at hqa
  refine rj_of' (cc := cX11_meanEvening) (nL := 4) (ret := (some .double)) (own := RX11) (l0 := [(0, .ref (ω.2.2 0)), (1, .int a0)]) rfl (by decide +kernel) rfl (Nat.le_of_ble_eq_true rfl) rfl ?_
  refine rj_iload_n 1 dX11_meanEvening_0 rfl rfl ?_
  refine rj_iconst (v := 4) dX11_meanEvening_1 rfl (by decide) ?_
  refine rj_cSx (rest := []) (sX11_needPlace (g := g) (ω := ω) hω μ a0 4   ) gX11_meanEvening_X11_needPlace rfl hSX11_needPlace ⟨Nat.le_of_ble_eq_true rfl, Nat.le_of_ble_eq_true rfl⟩ dX11_meanEvening_2 rfl rfl rfl (Nat.le_of_ble_eq_true rfl) rfl (Nat.le_of_ble_eq_true rfl) (fun E hE2 => ?_) (fun hx1 => ?_)
  · exact ⟨(by unfold fX11_meanEvening; try (rw [hE2]); try (simp only [rj_bx]); try rfl), rfl, (by unfold mX11_meanEvening; try (rw [hE2]); try (simp only [rj_bm]); try rfl)⟩
  · have hq1 := hqa; rw [hx1] at hq1; simp only [rq_bx] at hq1
    refine rj_iconst (v := 0) dX11_meanEvening_5 rfl (by decide) ?_
    refine rj_istore_n (l' := [(2, .int 0), (0, .ref (ω.2.2 0)), (1, .int a0)]) dX11_meanEvening_6 rfl (rj_bl rfl) rfl ?_
    refine rj_iconst (v := 0) dX11_meanEvening_7 rfl (by decide) ?_
    refine rj_istore_n (l' := [(3, .int 0), (2, .int 0), (0, .ref (ω.2.2 0)), (1, .int a0)]) dX11_meanEvening_8 rfl (rj_bl rfl) rfl ?_
    refine rj_sub (l' := [(0, .ref (ω.2.2 0)), (1, .int a0), (2, .int 0), (3, .int (nI 0))]) [2, 3, 1, 0] rfl ?_
    refine lX11_meanEvening_9u hω μ a0     hx1 12 0 0 μ rfl ?_
    refine rj_iload_n 2 dX11_meanEvening_40 rfl rfl ?_
    refine rj_i2d dX11_meanEvening_41 rfl ?_
    refine rj_ldc2d (v := (4622945017495814144 : UInt64)) dX11_meanEvening_42 rfl (by decide +kernel) ?_
    refine rj_ddiv dX11_meanEvening_45 rfl (hq1).1 ?_
    exact rj_dret dX11_meanEvening_46 rfl (Nat.le_of_ble_eq_true rfl) (Nat.le_of_ble_eq_true rfl) ⟨(by unfold fX11_meanEvening; try (rw [hx1]); try (simp only [rj_bx]); try rfl), rfl, (by unfold mX11_meanEvening; try (rw [hx1]); try (simp only [rj_bm]); try rfl)⟩
theorem hSX11_lineupShare : yX11_lineupShare.cls ≠ "java/lang/invoke/MethodHandle" ∧ yX11_lineupShare.cls ≠ "java/lang/invoke/VarHandle" ∧ (parseMethodDescriptor yX11_lineupShare.desc).map (fun d => d.parameters.length) = some 0 := by decide +kernel
theorem hVX11_lineupShare : yX11_lineupShare.cls = RX11 ∧ yX11_lineupShare.cls ≠ "java/lang/invoke/MethodHandle" ∧ yX11_lineupShare.cls ≠ "java/lang/invoke/VarHandle" ∧ (parseMethodDescriptor yX11_lineupShare.desc).map (fun d => d.parameters.length) = some 0 := by decide +kernel
theorem vX11_lineupShare_11 : ∀ w ∈ u_ws RX11 TX11 6, w ∈ wsX11_lineupShare := by decide +kernel
theorem kX11_lineupShare_12 : Cond.fieldLink RX11 12 (TX11 0).1 (TX11 0).2.1 (TX11 0).2.2.1 ∈ wsX11_lineupShare := by decide +kernel
theorem vX11_lineupShare_5 : ∀ w ∈ u_ws RX5 TX5 8, w ∈ wsX11_lineupShare := by decide +kernel
theorem kX11_lineupShare_26 : Cond.fieldLink RX11 26 (TX5 2).1 (TX5 2).2.1 (TX5 2).2.2.1 ∈ wsX11_lineupShare := by decide +kernel
def fX11_lineupShare (μ : rj_M) : UInt32 := (if (fJ6_bitCount_0f7a4 μ (fX7_numbers μ)) = 0 then FP.fconst0 else (FP.fdiv (FP.i2f (fJ6_bitCount_0f7a4 (mX7_lineup μ) (fX7_lineup μ))) (FP.i2f (fJ6_bitCount_0f7a4 μ (fX7_numbers μ)))))
def mX11_lineupShare (μ : rj_M) : rj_M := (if (fJ6_bitCount_0f7a4 μ (fX7_numbers μ)) = 0 then μ else (mX7_lineup μ))
def qX11_lineupShare (μ : rj_M) : Prop := (if (fJ6_bitCount_0f7a4 μ (fX7_numbers μ)) = 0 then True else (qX7_lineup μ ∧ vf_n32 (FP.fdiv (FP.i2f (fJ6_bitCount_0f7a4 (mX7_lineup μ) (fX7_lineup μ))) (FP.i2f (fJ6_bitCount_0f7a4 μ (fX7_numbers μ)))) ∧ True))
set_option maxHeartbeats 40000000 in
set_option maxRecDepth 100000 in
theorem sX11_lineupShare {g : rj_G} {ω : rj_W} (hω : rj_ok ω) (μ : rj_M)   (hq : qX11_lineupShare μ) : rj_Sp g yX11_lineupShare wsX11_lineupShare (rj_rm 20 0) [.ref (ω.2.2 0)] ω μ (rj_D (.inl (some (.float (fX11_lineupShare μ)))) ω (mX11_lineupShare μ)) := by
  have hqa := hq
  unfold qX11_lineupShare at hqa
  refine rj_of' (cc := cX11_lineupShare) (nL := 2) (ret := (some .float)) (own := RX11) (l0 := [(0, .ref (ω.2.2 0))]) rfl (by decide +kernel) rfl (Nat.le_of_ble_eq_true rfl) rfl ?_
  refine rj_aload_n 0 dX11_lineupShare_0 rfl rfl ?_
  refine rj_getR (C0 := RX11) (T := TX11) (N := 6) (j := 0) (r := 1) dX11_lineupShare_1 rfl vX11_lineupShare_11 rfl (rj_lt hω (k := 0) rfl) (rj_sh hω ly_0) (by decide) kX11_lineupShare_12 rfl ?_
  refine rj_getR (C0 := RX5) (T := TX5) (N := 8) (j := 2) (r := 8) dX11_lineupShare_4 rfl vX11_lineupShare_5 rfl (rj_lt hω (k := 1) rfl) (rj_sh hω ly_1) (by decide) kX11_lineupShare_26 rfl ?_
  refine rj_cV (rest := []) (sX7_numbers (g := g) (ω := ω) hω μ   ) gX11_lineupShare_X7_numbers (rj_lt hω (k := 8) rfl) (rj_sh hω ly_8) rfl rfl hVX7_numbers ⟨Nat.le_of_ble_eq_true rfl, Nat.le_of_ble_eq_true rfl⟩ dX11_lineupShare_7 rfl rfl rfl (Nat.le_of_ble_eq_true rfl) rfl (Nat.le_of_ble_eq_true rfl) rfl ?_
  refine rj_cS (rest := []) (sJ6_bitCount_0f7a4 (g := g) (ω := ω) μ (fX7_numbers μ)   ) gX11_lineupShare_J6_bitCount_0f7a4 rfl hSJ6_bitCount_0f7a4 ⟨Nat.le_of_ble_eq_true rfl, Nat.le_of_ble_eq_true rfl⟩ dX11_lineupShare_10 rfl rfl rfl (Nat.le_of_ble_eq_true rfl) rfl (Nat.le_of_ble_eq_true rfl) rfl ?_
  refine rj_istore_n (l' := [(1, .int (fJ6_bitCount_0f7a4 μ (fX7_numbers μ))), (0, .ref (ω.2.2 0))]) dX11_lineupShare_13 rfl (rj_bl rfl) rfl ?_
  refine rj_iload_n 0 dX11_lineupShare_14 rfl rfl ?_
  refine rj_if_ne dX11_lineupShare_15 rfl rfl (fun h1 => ?_) (fun h1 => ?_)
  · have hq1 := hqa; rw [if_neg h1] at hq1
    refine rj_aload_n 1 dX11_lineupShare_20 rfl rfl ?_
    refine rj_getR (C0 := RX11) (T := TX11) (N := 6) (j := 0) (r := 1) dX11_lineupShare_21 rfl vX11_lineupShare_11 rfl (rj_lt hω (k := 0) rfl) (rj_sh hω ly_0) (by decide) kX11_lineupShare_12 rfl ?_
    refine rj_getR (C0 := RX5) (T := TX5) (N := 8) (j := 2) (r := 8) dX11_lineupShare_24 rfl vX11_lineupShare_5 rfl (rj_lt hω (k := 1) rfl) (rj_sh hω ly_1) (by decide) kX11_lineupShare_26 rfl ?_
    refine rj_cV (rest := []) (sX7_lineup (g := g) (ω := ω) hω μ   (hq1).1) gX11_lineupShare_X7_lineup (rj_lt hω (k := 8) rfl) (rj_sh hω ly_8) rfl rfl hVX7_lineup ⟨Nat.le_of_ble_eq_true rfl, Nat.le_of_ble_eq_true rfl⟩ dX11_lineupShare_27 rfl rfl rfl (Nat.le_of_ble_eq_true rfl) rfl (Nat.le_of_ble_eq_true rfl) rfl ?_
    refine rj_cS (rest := []) (sJ6_bitCount_0f7a4 (g := g) (ω := ω) (mX7_lineup μ) (fX7_lineup μ)   ) gX11_lineupShare_J6_bitCount_0f7a4 rfl hSJ6_bitCount_0f7a4 ⟨Nat.le_of_ble_eq_true rfl, Nat.le_of_ble_eq_true rfl⟩ dX11_lineupShare_30 rfl rfl rfl (Nat.le_of_ble_eq_true rfl) rfl (Nat.le_of_ble_eq_true rfl) rfl ?_
    refine rj_i2f dX11_lineupShare_33 rfl ?_
    refine rj_iload_n 0 dX11_lineupShare_34 rfl rfl ?_
    refine rj_i2f dX11_lineupShare_35 rfl ?_
    refine rj_fdiv dX11_lineupShare_36 rfl ((hq1).2).1 ?_
    exact rj_fret dX11_lineupShare_37 rfl (Nat.le_of_ble_eq_true rfl) (Nat.le_of_ble_eq_true rfl) ⟨(by unfold fX11_lineupShare; rw [if_neg h1]; try rfl), rfl, (by unfold mX11_lineupShare; rw [if_neg h1]; try rfl)⟩
  · have hq2 := hqa; rw [if_pos h1] at hq2
    refine rj_fconst0 dX11_lineupShare_18 rfl ?_
    exact rj_fret dX11_lineupShare_19 rfl (Nat.le_of_ble_eq_true rfl) (Nat.le_of_ble_eq_true rfl) ⟨(by unfold fX11_lineupShare; rw [if_pos h1]; try rfl), rfl, (by unfold mX11_lineupShare; rw [if_pos h1]; try rfl)⟩
theorem hSX11_errors : yX11_errors.cls ≠ "java/lang/invoke/MethodHandle" ∧ yX11_errors.cls ≠ "java/lang/invoke/VarHandle" ∧ (parseMethodDescriptor yX11_errors.desc).map (fun d => d.parameters.length) = some 0 := by decide +kernel
theorem hVX11_errors : yX11_errors.cls = RX11 ∧ yX11_errors.cls ≠ "java/lang/invoke/MethodHandle" ∧ yX11_errors.cls ≠ "java/lang/invoke/VarHandle" ∧ (parseMethodDescriptor yX11_errors.desc).map (fun d => d.parameters.length) = some 0 := by decide +kernel
theorem vX11_errors_11 : ∀ w ∈ u_ws RX11 TX11 6, w ∈ wsX11_errors := by decide +kernel
theorem kX11_errors_12 : Cond.fieldLink RX11 12 (TX11 0).1 (TX11 0).2.1 (TX11 0).2.2.1 ∈ wsX11_errors := by decide +kernel
theorem vX11_errors_5 : ∀ w ∈ u_ws RX5 TX5 8, w ∈ wsX11_errors := by decide +kernel
theorem kX11_errors_26 : Cond.fieldLink RX11 26 (TX5 2).1 (TX5 2).2.1 (TX5 2).2.2.1 ∈ wsX11_errors := by decide +kernel
theorem kX11_errors_150 : Cond.fieldLink RX11 150 (TX5 4).1 (TX5 4).2.1 (TX5 4).2.2.1 ∈ wsX11_errors := by decide +kernel
theorem kX11_errors_226 : Cond.fieldLink RX11 226 (TX5 7).1 (TX5 7).2.1 (TX5 7).2.2.1 ∈ wsX11_errors := by decide +kernel
def fX11_errors (μ : rj_M) : Int32 := ((((((0 + (fX11_holds (mX7_bound (mX7_lineup μ)) (if (fX7_bound (mX7_lineup μ)) < (fX7_pleasingOfAll (mX7_lineup μ) (fX7_lineup μ)) then 0 else 1))) + (fX11_holds (mX11_areEveningsRight (mX7_bound (mX7_lineup μ))) (fX11_areEveningsRight (mX7_bound (mX7_lineup μ))))) + (fX11_holds (mX11_areEveningsRight (mX7_bound (mX7_lineup μ))) (fX11_isOutInTime (mX11_areEveningsRight (mX7_bound (mX7_lineup μ)))))) + (fX11_holds (mX0_sumInOneLine (mX11_areEveningsRight (mX7_bound (mX7_lineup μ)))) (if (fX0_sumInLines (mX0_sumInOneLine (mX11_areEveningsRight (mX7_bound (mX7_lineup μ))))) < (fX0_sumInOneLine (mX11_areEveningsRight (mX7_bound (mX7_lineup μ)))) then 0 else 1))) + (fX11_holds (mX11_isProofRight (mX0_sumInOneLine (mX11_areEveningsRight (mX7_bound (mX7_lineup μ))))) (fX11_isProofRight (mX0_sumInOneLine (mX11_areEveningsRight (mX7_bound (mX7_lineup μ))))))) + (fX11_holds (mX11_isProofRight (mX0_sumInOneLine (mX11_areEveningsRight (mX7_bound (mX7_lineup μ))))) (if (lg_cmp (fX8_sumOfAll (mX11_isProofRight (mX0_sumInOneLine (mX11_areEveningsRight (mX7_bound (mX7_lineup μ)))))) 0) = 0 then 1 else 0)))
def mX11_errors (μ : rj_M) : rj_M := (mX11_isProofRight (mX0_sumInOneLine (mX11_areEveningsRight (mX7_bound (mX7_lineup μ)))))
def qX11_errors (μ : rj_M) : Prop := (qX7_lineup μ ∧ qX7_bound (mX7_lineup μ) ∧ qX11_isOutInTime (mX11_areEveningsRight (mX7_bound (mX7_lineup μ))) ∧ qX11_isProofRight (mX0_sumInOneLine (mX11_areEveningsRight (mX7_bound (mX7_lineup μ)))) ∧ True)
set_option maxHeartbeats 40000000 in
set_option maxRecDepth 100000 in
theorem sX11_errors {g : rj_G} {ω : rj_W} (hω : rj_ok ω) (μ : rj_M)   (hq : qX11_errors μ) : rj_Sp g yX11_errors wsX11_errors (rj_rm 20 0) [.ref (ω.2.2 0)] ω μ (rj_D (.inl (some (.int (fX11_errors μ)))) ω (mX11_errors μ)) := by
  have hqa := hq
  unfold qX11_errors at hqa
  refine rj_of' (cc := cX11_errors) (nL := 2) (ret := (some .int)) (own := RX11) (l0 := [(0, .ref (ω.2.2 0))]) rfl (by decide +kernel) rfl (Nat.le_of_ble_eq_true rfl) rfl ?_
  refine rj_iconst (v := 0) dX11_errors_0 rfl (by decide) ?_
  refine rj_istore_n (l' := [(1, .int 0), (0, .ref (ω.2.2 0))]) dX11_errors_1 rfl (rj_bl rfl) rfl ?_
  refine rj_iload_n 0 dX11_errors_2 rfl rfl ?_
  refine rj_aload_n 1 dX11_errors_3 rfl rfl ?_
  refine rj_getR (C0 := RX11) (T := TX11) (N := 6) (j := 0) (r := 1) dX11_errors_4 rfl vX11_errors_11 rfl (rj_lt hω (k := 0) rfl) (rj_sh hω ly_0) (by decide) kX11_errors_12 rfl ?_
  refine rj_getR (C0 := RX5) (T := TX5) (N := 8) (j := 2) (r := 8) dX11_errors_7 rfl vX11_errors_5 rfl (rj_lt hω (k := 1) rfl) (rj_sh hω ly_1) (by decide) kX11_errors_26 rfl ?_
  refine rj_aload_n 1 dX11_errors_10 rfl rfl ?_
  refine rj_getR (C0 := RX11) (T := TX11) (N := 6) (j := 0) (r := 1) dX11_errors_11 rfl vX11_errors_11 rfl (rj_lt hω (k := 0) rfl) (rj_sh hω ly_0) (by decide) kX11_errors_12 rfl ?_
  refine rj_getR (C0 := RX5) (T := TX5) (N := 8) (j := 2) (r := 8) dX11_errors_14 rfl vX11_errors_5 rfl (rj_lt hω (k := 1) rfl) (rj_sh hω ly_1) (by decide) kX11_errors_26 rfl ?_
  refine rj_cV (rest := [.ref (ω.2.2 8), .int 0]) (sX7_lineup (g := g) (ω := ω) hω μ   (hqa).1) gX11_errors_X7_lineup (rj_lt hω (k := 8) rfl) (rj_sh hω ly_8) rfl rfl hVX7_lineup ⟨Nat.le_of_ble_eq_true rfl, Nat.le_of_ble_eq_true rfl⟩ dX11_errors_17 rfl rfl rfl (Nat.le_of_ble_eq_true rfl) rfl (Nat.le_of_ble_eq_true rfl) rfl ?_
  refine rj_cV (rest := [.int 0]) (sX7_pleasingOfAll (g := g) (ω := ω) hω (mX7_lineup μ) (fX7_lineup μ)   ) gX11_errors_X7_pleasingOfAll (rj_lt hω (k := 8) rfl) (rj_sh hω ly_8) rfl rfl hVX7_pleasingOfAll ⟨Nat.le_of_ble_eq_true rfl, Nat.le_of_ble_eq_true rfl⟩ dX11_errors_20 rfl rfl rfl (Nat.le_of_ble_eq_true rfl) rfl (Nat.le_of_ble_eq_true rfl) rfl ?_
  refine rj_aload_n 1 dX11_errors_23 rfl rfl ?_
  refine rj_getR (C0 := RX11) (T := TX11) (N := 6) (j := 0) (r := 1) dX11_errors_24 rfl vX11_errors_11 rfl (rj_lt hω (k := 0) rfl) (rj_sh hω ly_0) (by decide) kX11_errors_12 rfl ?_
  refine rj_getR (C0 := RX5) (T := TX5) (N := 8) (j := 2) (r := 8) dX11_errors_27 rfl vX11_errors_5 rfl (rj_lt hω (k := 1) rfl) (rj_sh hω ly_1) (by decide) kX11_errors_26 rfl ?_
  refine rj_cV (rest := [.int (fX7_pleasingOfAll (mX7_lineup μ) (fX7_lineup μ)), .int 0]) (sX7_bound (g := g) (ω := ω) hω (mX7_lineup μ)   ((hqa).2).1) gX11_errors_X7_bound (rj_lt hω (k := 8) rfl) (rj_sh hω ly_8) rfl rfl hVX7_bound ⟨Nat.le_of_ble_eq_true rfl, Nat.le_of_ble_eq_true rfl⟩ dX11_errors_30 rfl rfl rfl (Nat.le_of_ble_eq_true rfl) rfl (Nat.le_of_ble_eq_true rfl) rfl ?_
  refine rj_join (c := (fX7_bound (mX7_lineup μ)) < (fX7_pleasingOfAll (mX7_lineup μ) (fX7_lineup μ))) (a := 0) (b := 1) (J := 41) (st2 := [.int 0]) (fun k1 k2 => ?_) ?_
  · refine rj_icmp_gt dX11_errors_33 rfl rfl (fun h1 => ?_) (fun h1 => ?_)
    · refine rj_iconst (v := 0) dX11_errors_40 rfl (by decide) ?_
      exact k1 h1
    · refine rj_iconst (v := 1) dX11_errors_36 rfl (by decide) ?_
      refine rj_goto dX11_errors_37 rfl ?_
      exact k2 h1
  refine rj_cS (rest := [.int 0]) (sX11_holds (g := g) (ω := ω) hω (mX7_bound (mX7_lineup μ)) (if (fX7_bound (mX7_lineup μ)) < (fX7_pleasingOfAll (mX7_lineup μ) (fX7_lineup μ)) then 0 else 1)   ) gX11_errors_X11_holds rfl hSX11_holds ⟨Nat.le_of_ble_eq_true rfl, Nat.le_of_ble_eq_true rfl⟩ dX11_errors_41 rfl rfl rfl (Nat.le_of_ble_eq_true rfl) rfl (Nat.le_of_ble_eq_true rfl) rfl ?_
  refine rj_iadd dX11_errors_44 rfl ?_
  refine rj_istore_n (l' := [(1, .int (0 + (fX11_holds (mX7_bound (mX7_lineup μ)) (if (fX7_bound (mX7_lineup μ)) < (fX7_pleasingOfAll (mX7_lineup μ) (fX7_lineup μ)) then 0 else 1)))), (0, .ref (ω.2.2 0))]) dX11_errors_45 rfl (rj_bl rfl) rfl ?_
  refine rj_iload_n 0 dX11_errors_46 rfl rfl ?_
  refine rj_aload_n 1 dX11_errors_47 rfl rfl ?_
  refine rj_cV (rest := [.int (0 + (fX11_holds (mX7_bound (mX7_lineup μ)) (if (fX7_bound (mX7_lineup μ)) < (fX7_pleasingOfAll (mX7_lineup μ) (fX7_lineup μ)) then 0 else 1)))]) (sX11_areEveningsRight (g := g) (ω := ω) hω (mX7_bound (mX7_lineup μ))   ) gX11_errors_X11_areEveningsRight (rj_lt hω (k := 0) rfl) (rj_sh hω ly_0) rfl rfl hVX11_areEveningsRight ⟨Nat.le_of_ble_eq_true rfl, Nat.le_of_ble_eq_true rfl⟩ dX11_errors_48 rfl rfl rfl (Nat.le_of_ble_eq_true rfl) rfl (Nat.le_of_ble_eq_true rfl) rfl ?_
  refine rj_cS (rest := [.int (0 + (fX11_holds (mX7_bound (mX7_lineup μ)) (if (fX7_bound (mX7_lineup μ)) < (fX7_pleasingOfAll (mX7_lineup μ) (fX7_lineup μ)) then 0 else 1)))]) (sX11_holds (g := g) (ω := ω) hω (mX11_areEveningsRight (mX7_bound (mX7_lineup μ))) (fX11_areEveningsRight (mX7_bound (mX7_lineup μ)))   ) gX11_errors_X11_holds rfl hSX11_holds ⟨Nat.le_of_ble_eq_true rfl, Nat.le_of_ble_eq_true rfl⟩ dX11_errors_51 rfl rfl rfl (Nat.le_of_ble_eq_true rfl) rfl (Nat.le_of_ble_eq_true rfl) rfl ?_
  refine rj_iadd dX11_errors_54 rfl ?_
  refine rj_istore_n (l' := [(1, .int ((0 + (fX11_holds (mX7_bound (mX7_lineup μ)) (if (fX7_bound (mX7_lineup μ)) < (fX7_pleasingOfAll (mX7_lineup μ) (fX7_lineup μ)) then 0 else 1))) + (fX11_holds (mX11_areEveningsRight (mX7_bound (mX7_lineup μ))) (fX11_areEveningsRight (mX7_bound (mX7_lineup μ)))))), (0, .ref (ω.2.2 0))]) dX11_errors_55 rfl (rj_bl rfl) rfl ?_
  refine rj_iload_n 0 dX11_errors_56 rfl rfl ?_
  refine rj_aload_n 1 dX11_errors_57 rfl rfl ?_
  refine rj_cV (rest := [.int ((0 + (fX11_holds (mX7_bound (mX7_lineup μ)) (if (fX7_bound (mX7_lineup μ)) < (fX7_pleasingOfAll (mX7_lineup μ) (fX7_lineup μ)) then 0 else 1))) + (fX11_holds (mX11_areEveningsRight (mX7_bound (mX7_lineup μ))) (fX11_areEveningsRight (mX7_bound (mX7_lineup μ)))))]) (sX11_isOutInTime (g := g) (ω := ω) hω (mX11_areEveningsRight (mX7_bound (mX7_lineup μ)))   (((hqa).2).2).1) gX11_errors_X11_isOutInTime (rj_lt hω (k := 0) rfl) (rj_sh hω ly_0) rfl rfl hVX11_isOutInTime ⟨Nat.le_of_ble_eq_true rfl, Nat.le_of_ble_eq_true rfl⟩ dX11_errors_58 rfl rfl rfl (Nat.le_of_ble_eq_true rfl) rfl (Nat.le_of_ble_eq_true rfl) rfl ?_
  refine rj_cS (rest := [.int ((0 + (fX11_holds (mX7_bound (mX7_lineup μ)) (if (fX7_bound (mX7_lineup μ)) < (fX7_pleasingOfAll (mX7_lineup μ) (fX7_lineup μ)) then 0 else 1))) + (fX11_holds (mX11_areEveningsRight (mX7_bound (mX7_lineup μ))) (fX11_areEveningsRight (mX7_bound (mX7_lineup μ)))))]) (sX11_holds (g := g) (ω := ω) hω (mX11_areEveningsRight (mX7_bound (mX7_lineup μ))) (fX11_isOutInTime (mX11_areEveningsRight (mX7_bound (mX7_lineup μ))))   ) gX11_errors_X11_holds rfl hSX11_holds ⟨Nat.le_of_ble_eq_true rfl, Nat.le_of_ble_eq_true rfl⟩ dX11_errors_61 rfl rfl rfl (Nat.le_of_ble_eq_true rfl) rfl (Nat.le_of_ble_eq_true rfl) rfl ?_
  refine rj_iadd dX11_errors_64 rfl ?_
  refine rj_istore_n (l' := [(1, .int (((0 + (fX11_holds (mX7_bound (mX7_lineup μ)) (if (fX7_bound (mX7_lineup μ)) < (fX7_pleasingOfAll (mX7_lineup μ) (fX7_lineup μ)) then 0 else 1))) + (fX11_holds (mX11_areEveningsRight (mX7_bound (mX7_lineup μ))) (fX11_areEveningsRight (mX7_bound (mX7_lineup μ))))) + (fX11_holds (mX11_areEveningsRight (mX7_bound (mX7_lineup μ))) (fX11_isOutInTime (mX11_areEveningsRight (mX7_bound (mX7_lineup μ))))))), (0, .ref (ω.2.2 0))]) dX11_errors_65 rfl (rj_bl rfl) rfl ?_
  refine rj_iload_n 0 dX11_errors_66 rfl rfl ?_
  refine rj_aload_n 1 dX11_errors_67 rfl rfl ?_
  refine rj_getR (C0 := RX11) (T := TX11) (N := 6) (j := 0) (r := 1) dX11_errors_68 rfl vX11_errors_11 rfl (rj_lt hω (k := 0) rfl) (rj_sh hω ly_0) (by decide) kX11_errors_12 rfl ?_
  refine rj_getR (C0 := RX5) (T := TX5) (N := 8) (j := 4) (r := 21) dX11_errors_71 rfl vX11_errors_5 rfl (rj_lt hω (k := 1) rfl) (rj_sh hω ly_1) (by decide) kX11_errors_150 rfl ?_
  refine rj_cV (rest := [.int (((0 + (fX11_holds (mX7_bound (mX7_lineup μ)) (if (fX7_bound (mX7_lineup μ)) < (fX7_pleasingOfAll (mX7_lineup μ) (fX7_lineup μ)) then 0 else 1))) + (fX11_holds (mX11_areEveningsRight (mX7_bound (mX7_lineup μ))) (fX11_areEveningsRight (mX7_bound (mX7_lineup μ))))) + (fX11_holds (mX11_areEveningsRight (mX7_bound (mX7_lineup μ))) (fX11_isOutInTime (mX11_areEveningsRight (mX7_bound (mX7_lineup μ))))))]) (sX0_sumInOneLine (g := g) (ω := ω) hω (mX11_areEveningsRight (mX7_bound (mX7_lineup μ)))   ) gX11_errors_X0_sumInOneLine (rj_lt hω (k := 21) rfl) (rj_sh hω ly_21) rfl rfl hVX0_sumInOneLine ⟨Nat.le_of_ble_eq_true rfl, Nat.le_of_ble_eq_true rfl⟩ dX11_errors_74 rfl rfl rfl (Nat.le_of_ble_eq_true rfl) rfl (Nat.le_of_ble_eq_true rfl) rfl ?_
  refine rj_aload_n 1 dX11_errors_77 rfl rfl ?_
  refine rj_getR (C0 := RX11) (T := TX11) (N := 6) (j := 0) (r := 1) dX11_errors_78 rfl vX11_errors_11 rfl (rj_lt hω (k := 0) rfl) (rj_sh hω ly_0) (by decide) kX11_errors_12 rfl ?_
  refine rj_getR (C0 := RX5) (T := TX5) (N := 8) (j := 4) (r := 21) dX11_errors_81 rfl vX11_errors_5 rfl (rj_lt hω (k := 1) rfl) (rj_sh hω ly_1) (by decide) kX11_errors_150 rfl ?_
  refine rj_cV (rest := [.int (fX0_sumInOneLine (mX11_areEveningsRight (mX7_bound (mX7_lineup μ)))), .int (((0 + (fX11_holds (mX7_bound (mX7_lineup μ)) (if (fX7_bound (mX7_lineup μ)) < (fX7_pleasingOfAll (mX7_lineup μ) (fX7_lineup μ)) then 0 else 1))) + (fX11_holds (mX11_areEveningsRight (mX7_bound (mX7_lineup μ))) (fX11_areEveningsRight (mX7_bound (mX7_lineup μ))))) + (fX11_holds (mX11_areEveningsRight (mX7_bound (mX7_lineup μ))) (fX11_isOutInTime (mX11_areEveningsRight (mX7_bound (mX7_lineup μ))))))]) (sX0_sumInLines (g := g) (ω := ω) hω (mX0_sumInOneLine (mX11_areEveningsRight (mX7_bound (mX7_lineup μ))))   ) gX11_errors_X0_sumInLines (rj_lt hω (k := 21) rfl) (rj_sh hω ly_21) rfl rfl hVX0_sumInLines ⟨Nat.le_of_ble_eq_true rfl, Nat.le_of_ble_eq_true rfl⟩ dX11_errors_84 rfl rfl rfl (Nat.le_of_ble_eq_true rfl) rfl (Nat.le_of_ble_eq_true rfl) rfl ?_
  refine rj_join (c := (fX0_sumInLines (mX0_sumInOneLine (mX11_areEveningsRight (mX7_bound (mX7_lineup μ))))) < (fX0_sumInOneLine (mX11_areEveningsRight (mX7_bound (mX7_lineup μ))))) (a := 0) (b := 1) (J := 95) (st2 := [.int (((0 + (fX11_holds (mX7_bound (mX7_lineup μ)) (if (fX7_bound (mX7_lineup μ)) < (fX7_pleasingOfAll (mX7_lineup μ) (fX7_lineup μ)) then 0 else 1))) + (fX11_holds (mX11_areEveningsRight (mX7_bound (mX7_lineup μ))) (fX11_areEveningsRight (mX7_bound (mX7_lineup μ))))) + (fX11_holds (mX11_areEveningsRight (mX7_bound (mX7_lineup μ))) (fX11_isOutInTime (mX11_areEveningsRight (mX7_bound (mX7_lineup μ))))))]) (fun k1 k2 => ?_) ?_
  · refine rj_icmp_gt dX11_errors_87 rfl rfl (fun h2 => ?_) (fun h2 => ?_)
    · refine rj_iconst (v := 0) dX11_errors_94 rfl (by decide) ?_
      exact k1 h2
    · refine rj_iconst (v := 1) dX11_errors_90 rfl (by decide) ?_
      refine rj_goto dX11_errors_91 rfl ?_
      exact k2 h2
  refine rj_cS (rest := [.int (((0 + (fX11_holds (mX7_bound (mX7_lineup μ)) (if (fX7_bound (mX7_lineup μ)) < (fX7_pleasingOfAll (mX7_lineup μ) (fX7_lineup μ)) then 0 else 1))) + (fX11_holds (mX11_areEveningsRight (mX7_bound (mX7_lineup μ))) (fX11_areEveningsRight (mX7_bound (mX7_lineup μ))))) + (fX11_holds (mX11_areEveningsRight (mX7_bound (mX7_lineup μ))) (fX11_isOutInTime (mX11_areEveningsRight (mX7_bound (mX7_lineup μ))))))]) (sX11_holds (g := g) (ω := ω) hω (mX0_sumInOneLine (mX11_areEveningsRight (mX7_bound (mX7_lineup μ)))) (if (fX0_sumInLines (mX0_sumInOneLine (mX11_areEveningsRight (mX7_bound (mX7_lineup μ))))) < (fX0_sumInOneLine (mX11_areEveningsRight (mX7_bound (mX7_lineup μ)))) then 0 else 1)   ) gX11_errors_X11_holds rfl hSX11_holds ⟨Nat.le_of_ble_eq_true rfl, Nat.le_of_ble_eq_true rfl⟩ dX11_errors_95 rfl rfl rfl (Nat.le_of_ble_eq_true rfl) rfl (Nat.le_of_ble_eq_true rfl) rfl ?_
  refine rj_iadd dX11_errors_98 rfl ?_
  refine rj_istore_n (l' := [(1, .int ((((0 + (fX11_holds (mX7_bound (mX7_lineup μ)) (if (fX7_bound (mX7_lineup μ)) < (fX7_pleasingOfAll (mX7_lineup μ) (fX7_lineup μ)) then 0 else 1))) + (fX11_holds (mX11_areEveningsRight (mX7_bound (mX7_lineup μ))) (fX11_areEveningsRight (mX7_bound (mX7_lineup μ))))) + (fX11_holds (mX11_areEveningsRight (mX7_bound (mX7_lineup μ))) (fX11_isOutInTime (mX11_areEveningsRight (mX7_bound (mX7_lineup μ)))))) + (fX11_holds (mX0_sumInOneLine (mX11_areEveningsRight (mX7_bound (mX7_lineup μ)))) (if (fX0_sumInLines (mX0_sumInOneLine (mX11_areEveningsRight (mX7_bound (mX7_lineup μ))))) < (fX0_sumInOneLine (mX11_areEveningsRight (mX7_bound (mX7_lineup μ)))) then 0 else 1)))), (0, .ref (ω.2.2 0))]) dX11_errors_99 rfl (rj_bl rfl) rfl ?_
  refine rj_iload_n 0 dX11_errors_100 rfl rfl ?_
  refine rj_aload_n 1 dX11_errors_101 rfl rfl ?_
  refine rj_cV (rest := [.int ((((0 + (fX11_holds (mX7_bound (mX7_lineup μ)) (if (fX7_bound (mX7_lineup μ)) < (fX7_pleasingOfAll (mX7_lineup μ) (fX7_lineup μ)) then 0 else 1))) + (fX11_holds (mX11_areEveningsRight (mX7_bound (mX7_lineup μ))) (fX11_areEveningsRight (mX7_bound (mX7_lineup μ))))) + (fX11_holds (mX11_areEveningsRight (mX7_bound (mX7_lineup μ))) (fX11_isOutInTime (mX11_areEveningsRight (mX7_bound (mX7_lineup μ)))))) + (fX11_holds (mX0_sumInOneLine (mX11_areEveningsRight (mX7_bound (mX7_lineup μ)))) (if (fX0_sumInLines (mX0_sumInOneLine (mX11_areEveningsRight (mX7_bound (mX7_lineup μ))))) < (fX0_sumInOneLine (mX11_areEveningsRight (mX7_bound (mX7_lineup μ)))) then 0 else 1)))]) (sX11_isProofRight (g := g) (ω := ω) hω (mX0_sumInOneLine (mX11_areEveningsRight (mX7_bound (mX7_lineup μ))))   ((((hqa).2).2).2).1) gX11_errors_X11_isProofRight (rj_lt hω (k := 0) rfl) (rj_sh hω ly_0) rfl rfl hVX11_isProofRight ⟨Nat.le_of_ble_eq_true rfl, Nat.le_of_ble_eq_true rfl⟩ dX11_errors_102 rfl rfl rfl (Nat.le_of_ble_eq_true rfl) rfl (Nat.le_of_ble_eq_true rfl) rfl ?_
  refine rj_cS (rest := [.int ((((0 + (fX11_holds (mX7_bound (mX7_lineup μ)) (if (fX7_bound (mX7_lineup μ)) < (fX7_pleasingOfAll (mX7_lineup μ) (fX7_lineup μ)) then 0 else 1))) + (fX11_holds (mX11_areEveningsRight (mX7_bound (mX7_lineup μ))) (fX11_areEveningsRight (mX7_bound (mX7_lineup μ))))) + (fX11_holds (mX11_areEveningsRight (mX7_bound (mX7_lineup μ))) (fX11_isOutInTime (mX11_areEveningsRight (mX7_bound (mX7_lineup μ)))))) + (fX11_holds (mX0_sumInOneLine (mX11_areEveningsRight (mX7_bound (mX7_lineup μ)))) (if (fX0_sumInLines (mX0_sumInOneLine (mX11_areEveningsRight (mX7_bound (mX7_lineup μ))))) < (fX0_sumInOneLine (mX11_areEveningsRight (mX7_bound (mX7_lineup μ)))) then 0 else 1)))]) (sX11_holds (g := g) (ω := ω) hω (mX11_isProofRight (mX0_sumInOneLine (mX11_areEveningsRight (mX7_bound (mX7_lineup μ))))) (fX11_isProofRight (mX0_sumInOneLine (mX11_areEveningsRight (mX7_bound (mX7_lineup μ)))))   ) gX11_errors_X11_holds rfl hSX11_holds ⟨Nat.le_of_ble_eq_true rfl, Nat.le_of_ble_eq_true rfl⟩ dX11_errors_105 rfl rfl rfl (Nat.le_of_ble_eq_true rfl) rfl (Nat.le_of_ble_eq_true rfl) rfl ?_
  refine rj_iadd dX11_errors_108 rfl ?_
  refine rj_istore_n (l' := [(1, .int (((((0 + (fX11_holds (mX7_bound (mX7_lineup μ)) (if (fX7_bound (mX7_lineup μ)) < (fX7_pleasingOfAll (mX7_lineup μ) (fX7_lineup μ)) then 0 else 1))) + (fX11_holds (mX11_areEveningsRight (mX7_bound (mX7_lineup μ))) (fX11_areEveningsRight (mX7_bound (mX7_lineup μ))))) + (fX11_holds (mX11_areEveningsRight (mX7_bound (mX7_lineup μ))) (fX11_isOutInTime (mX11_areEveningsRight (mX7_bound (mX7_lineup μ)))))) + (fX11_holds (mX0_sumInOneLine (mX11_areEveningsRight (mX7_bound (mX7_lineup μ)))) (if (fX0_sumInLines (mX0_sumInOneLine (mX11_areEveningsRight (mX7_bound (mX7_lineup μ))))) < (fX0_sumInOneLine (mX11_areEveningsRight (mX7_bound (mX7_lineup μ)))) then 0 else 1))) + (fX11_holds (mX11_isProofRight (mX0_sumInOneLine (mX11_areEveningsRight (mX7_bound (mX7_lineup μ))))) (fX11_isProofRight (mX0_sumInOneLine (mX11_areEveningsRight (mX7_bound (mX7_lineup μ)))))))), (0, .ref (ω.2.2 0))]) dX11_errors_109 rfl (rj_bl rfl) rfl ?_
  refine rj_iload_n 0 dX11_errors_110 rfl rfl ?_
  refine rj_aload_n 1 dX11_errors_111 rfl rfl ?_
  refine rj_getR (C0 := RX11) (T := TX11) (N := 6) (j := 0) (r := 1) dX11_errors_112 rfl vX11_errors_11 rfl (rj_lt hω (k := 0) rfl) (rj_sh hω ly_0) (by decide) kX11_errors_12 rfl ?_
  refine rj_getR (C0 := RX5) (T := TX5) (N := 8) (j := 7) (r := 39) dX11_errors_115 rfl vX11_errors_5 rfl (rj_lt hω (k := 1) rfl) (rj_sh hω ly_1) (by decide) kX11_errors_226 rfl ?_
  refine rj_cV (rest := [.int (((((0 + (fX11_holds (mX7_bound (mX7_lineup μ)) (if (fX7_bound (mX7_lineup μ)) < (fX7_pleasingOfAll (mX7_lineup μ) (fX7_lineup μ)) then 0 else 1))) + (fX11_holds (mX11_areEveningsRight (mX7_bound (mX7_lineup μ))) (fX11_areEveningsRight (mX7_bound (mX7_lineup μ))))) + (fX11_holds (mX11_areEveningsRight (mX7_bound (mX7_lineup μ))) (fX11_isOutInTime (mX11_areEveningsRight (mX7_bound (mX7_lineup μ)))))) + (fX11_holds (mX0_sumInOneLine (mX11_areEveningsRight (mX7_bound (mX7_lineup μ)))) (if (fX0_sumInLines (mX0_sumInOneLine (mX11_areEveningsRight (mX7_bound (mX7_lineup μ))))) < (fX0_sumInOneLine (mX11_areEveningsRight (mX7_bound (mX7_lineup μ)))) then 0 else 1))) + (fX11_holds (mX11_isProofRight (mX0_sumInOneLine (mX11_areEveningsRight (mX7_bound (mX7_lineup μ))))) (fX11_isProofRight (mX0_sumInOneLine (mX11_areEveningsRight (mX7_bound (mX7_lineup μ)))))))]) (sX8_sumOfAll (g := g) (ω := ω) hω (mX11_isProofRight (mX0_sumInOneLine (mX11_areEveningsRight (mX7_bound (mX7_lineup μ)))))   ) gX11_errors_X8_sumOfAll (rj_lt hω (k := 39) rfl) (rj_sh hω ly_39) rfl rfl hVX8_sumOfAll ⟨Nat.le_of_ble_eq_true rfl, Nat.le_of_ble_eq_true rfl⟩ dX11_errors_118 rfl rfl rfl (Nat.le_of_ble_eq_true rfl) rfl (Nat.le_of_ble_eq_true rfl) rfl ?_
  refine rj_lconst (v := 0) dX11_errors_121 rfl (by decide) ?_
  refine rj_lcmp dX11_errors_122 rfl ?_
  refine rj_join (c := (lg_cmp (fX8_sumOfAll (mX11_isProofRight (mX0_sumInOneLine (mX11_areEveningsRight (mX7_bound (mX7_lineup μ)))))) 0) = 0) (a := 1) (b := 0) (J := 131) (st2 := [.int (((((0 + (fX11_holds (mX7_bound (mX7_lineup μ)) (if (fX7_bound (mX7_lineup μ)) < (fX7_pleasingOfAll (mX7_lineup μ) (fX7_lineup μ)) then 0 else 1))) + (fX11_holds (mX11_areEveningsRight (mX7_bound (mX7_lineup μ))) (fX11_areEveningsRight (mX7_bound (mX7_lineup μ))))) + (fX11_holds (mX11_areEveningsRight (mX7_bound (mX7_lineup μ))) (fX11_isOutInTime (mX11_areEveningsRight (mX7_bound (mX7_lineup μ)))))) + (fX11_holds (mX0_sumInOneLine (mX11_areEveningsRight (mX7_bound (mX7_lineup μ)))) (if (fX0_sumInLines (mX0_sumInOneLine (mX11_areEveningsRight (mX7_bound (mX7_lineup μ))))) < (fX0_sumInOneLine (mX11_areEveningsRight (mX7_bound (mX7_lineup μ)))) then 0 else 1))) + (fX11_holds (mX11_isProofRight (mX0_sumInOneLine (mX11_areEveningsRight (mX7_bound (mX7_lineup μ))))) (fX11_isProofRight (mX0_sumInOneLine (mX11_areEveningsRight (mX7_bound (mX7_lineup μ)))))))]) (fun k1 k2 => ?_) ?_
  · refine rj_if_ne dX11_errors_123 rfl rfl (fun h3 => ?_) (fun h3 => ?_)
    · refine rj_iconst (v := 0) dX11_errors_130 rfl (by decide) ?_
      exact k2 h3
    · refine rj_iconst (v := 1) dX11_errors_126 rfl (by decide) ?_
      refine rj_goto dX11_errors_127 rfl ?_
      exact k1 h3
  refine rj_cS (rest := [.int (((((0 + (fX11_holds (mX7_bound (mX7_lineup μ)) (if (fX7_bound (mX7_lineup μ)) < (fX7_pleasingOfAll (mX7_lineup μ) (fX7_lineup μ)) then 0 else 1))) + (fX11_holds (mX11_areEveningsRight (mX7_bound (mX7_lineup μ))) (fX11_areEveningsRight (mX7_bound (mX7_lineup μ))))) + (fX11_holds (mX11_areEveningsRight (mX7_bound (mX7_lineup μ))) (fX11_isOutInTime (mX11_areEveningsRight (mX7_bound (mX7_lineup μ)))))) + (fX11_holds (mX0_sumInOneLine (mX11_areEveningsRight (mX7_bound (mX7_lineup μ)))) (if (fX0_sumInLines (mX0_sumInOneLine (mX11_areEveningsRight (mX7_bound (mX7_lineup μ))))) < (fX0_sumInOneLine (mX11_areEveningsRight (mX7_bound (mX7_lineup μ)))) then 0 else 1))) + (fX11_holds (mX11_isProofRight (mX0_sumInOneLine (mX11_areEveningsRight (mX7_bound (mX7_lineup μ))))) (fX11_isProofRight (mX0_sumInOneLine (mX11_areEveningsRight (mX7_bound (mX7_lineup μ)))))))]) (sX11_holds (g := g) (ω := ω) hω (mX11_isProofRight (mX0_sumInOneLine (mX11_areEveningsRight (mX7_bound (mX7_lineup μ))))) (if (lg_cmp (fX8_sumOfAll (mX11_isProofRight (mX0_sumInOneLine (mX11_areEveningsRight (mX7_bound (mX7_lineup μ)))))) 0) = 0 then 1 else 0)   ) gX11_errors_X11_holds rfl hSX11_holds ⟨Nat.le_of_ble_eq_true rfl, Nat.le_of_ble_eq_true rfl⟩ dX11_errors_131 rfl rfl rfl (Nat.le_of_ble_eq_true rfl) rfl (Nat.le_of_ble_eq_true rfl) rfl ?_
  refine rj_iadd dX11_errors_134 rfl ?_
  refine rj_istore_n (l' := [(1, .int ((((((0 + (fX11_holds (mX7_bound (mX7_lineup μ)) (if (fX7_bound (mX7_lineup μ)) < (fX7_pleasingOfAll (mX7_lineup μ) (fX7_lineup μ)) then 0 else 1))) + (fX11_holds (mX11_areEveningsRight (mX7_bound (mX7_lineup μ))) (fX11_areEveningsRight (mX7_bound (mX7_lineup μ))))) + (fX11_holds (mX11_areEveningsRight (mX7_bound (mX7_lineup μ))) (fX11_isOutInTime (mX11_areEveningsRight (mX7_bound (mX7_lineup μ)))))) + (fX11_holds (mX0_sumInOneLine (mX11_areEveningsRight (mX7_bound (mX7_lineup μ)))) (if (fX0_sumInLines (mX0_sumInOneLine (mX11_areEveningsRight (mX7_bound (mX7_lineup μ))))) < (fX0_sumInOneLine (mX11_areEveningsRight (mX7_bound (mX7_lineup μ)))) then 0 else 1))) + (fX11_holds (mX11_isProofRight (mX0_sumInOneLine (mX11_areEveningsRight (mX7_bound (mX7_lineup μ))))) (fX11_isProofRight (mX0_sumInOneLine (mX11_areEveningsRight (mX7_bound (mX7_lineup μ))))))) + (fX11_holds (mX11_isProofRight (mX0_sumInOneLine (mX11_areEveningsRight (mX7_bound (mX7_lineup μ))))) (if (lg_cmp (fX8_sumOfAll (mX11_isProofRight (mX0_sumInOneLine (mX11_areEveningsRight (mX7_bound (mX7_lineup μ)))))) 0) = 0 then 1 else 0)))), (0, .ref (ω.2.2 0))]) dX11_errors_135 rfl (rj_bl rfl) rfl ?_
  refine rj_iload_n 0 dX11_errors_136 rfl rfl ?_
  exact rj_iret dX11_errors_137 rfl (Nat.le_of_ble_eq_true rfl) (Nat.le_of_ble_eq_true rfl) ⟨(by unfold fX11_errors; rfl), rfl, (by unfold mX11_errors; rfl)⟩
theorem hSX9_tryGoals : yX9_tryGoals.cls ≠ "java/lang/invoke/MethodHandle" ∧ yX9_tryGoals.cls ≠ "java/lang/invoke/VarHandle" ∧ (parseMethodDescriptor yX9_tryGoals.desc).map (fun d => d.parameters.length) = some 3 := by decide +kernel
theorem hVX9_tryGoals : yX9_tryGoals.cls = RX9 ∧ yX9_tryGoals.cls ≠ "java/lang/invoke/MethodHandle" ∧ yX9_tryGoals.cls ≠ "java/lang/invoke/VarHandle" ∧ (parseMethodDescriptor yX9_tryGoals.desc).map (fun d => d.parameters.length) = some 3 := by decide +kernel
theorem vX9_tryGoals_9 : ∀ w ∈ u_ws RX9 TX9 8, w ∈ wsX9_tryGoals := by decide +kernel
theorem kX9_tryGoals_29 : Cond.fieldLink RX9 29 (TX9 7).1 (TX9 7).2.1 (TX9 7).2.2.1 ∈ wsX9_tryGoals := by decide +kernel
theorem kX9_tryGoals_22 : Cond.fieldLink RX9 22 (TX9 5).1 (TX9 5).2.1 (TX9 5).2.2.1 ∈ wsX9_tryGoals := by decide +kernel
theorem kX9_tryGoals_26 : Cond.fieldLink RX9 26 (TX9 6).1 (TX9 6).2.1 (TX9 6).2.2.1 ∈ wsX9_tryGoals := by decide +kernel
def bX9_tryGoals_35 (n : Nat) (rc : rj_M → Int32 → Int32 → rj_M) (μ : rj_M) (a1 : Int32) (a2 : Int32) (j35 : Nat) (s35 : rj_M) : rj_M := (if (fX9_hasRoom s35 (nI j35) a1) = 0 then s35 else (rc (rj_pi s35 50 a1.toNatClampNeg (nI j35)) (a1 + 1) a2))
def qX9_tryGoals_35 (n : Nat) (rc : rj_M → Int32 → Int32 → rj_M) (rcq : rj_M → Int32 → Int32 → Prop) (μ : rj_M) (a1 : Int32) (a2 : Int32) (j35 : Nat) (s35 : rj_M) : Prop := (if (fX9_hasRoom s35 (nI j35) a1) = 0 then True else (rcq (rj_pi s35 50 a1.toNatClampNeg (nI j35)) (a1 + 1) a2 ∧ True))
set_option maxHeartbeats 4000000 in
set_option maxRecDepth 100000 in
theorem lX9_tryGoals_35 {g : rj_G} {ω : rj_W} (hω : rj_ok ω) (n : Nat) (rc : rj_M → Int32 → Int32 → rj_M) (rcq : rj_M → Int32 → Int32 → Prop) (μ : rj_M) (a1 : Int32) (a2 : Int32)     (hrc : ∀ (μ : rj_M) (a1 : Int32) (a2 : Int32), rcq μ a1 a2 → rj_Sp g yX9_tryGoals wsX9_tryGoals (rj_rm (4 + n) 0) [.ref (ω.2.2 47), .int a1, .int a2] ω μ (rj_D (.inl none) ω (rc μ a1 a2))) (h1 : ¬ ((μ.1 47 7) ≤ a2)) (h2 : (0 ≤ a1)) (h3 : ¬ ((μ.1 47 5) ≤ a1)) (h4 : (a1 < 6)) {F : rj_F} : ∀ (r j : Nat) (s : rj_M), j + r = 4 → rq_fo (qX9_tryGoals_35 n rc rcq μ a1 a2) (bX9_tryGoals_35 n rc μ a1 a2) r j s → (rj_R g RX9 cX9_tryGoals 4 none wsX9_tryGoals [] (rj_rm (4 + (n + 1)) 0) F 0 ω (rj_fo (bX9_tryGoals_35 n rc μ a1 a2) r j s) [(0, .ref (ω.2.2 47)), (1, .int a1), (2, .int a2), (3, .int (nI 4))] 70 []) → rj_R g RX9 cX9_tryGoals 4 none wsX9_tryGoals [] (rj_rm (4 + (n + 1)) 0) F 0 ω s [(0, .ref (ω.2.2 47)), (1, .int a1), (2, .int a2), (3, .int (nI j))] 35 [] := by
  intro r
  induction r with
  | zero =>
    intro j s hj hq0 K
    have e0 : j = 4 := by omega
    have hge : 4 ≤ nI j := by
      rw [e0]
      exact Int32.le_refl _
    refine rj_iload_n 3 dX9_tryGoals_35 rfl rfl ?_
    refine rj_iconst (v := 4) dX9_tryGoals_36 rfl (by decide) ?_
    refine rj_icmp_ge dX9_tryGoals_37 rfl rfl (fun h7 => ?_) (fun h7 => ?_)
    · have e1 : nI j = nI 4 := by rw [e0]
      rw [e1]
      exact K
    · exact absurd hge h7
  | succ r ih =>
    intro j35 s35 hj hq0 K
    have hl35 : j35 < 4 := by omega
    have hg35 : ¬ 4 ≤ nI j35 := nI_ge hl35 (rj_bl rfl)
    rw [rq_fo_s] at hq0
    have hqa := hq0.1
    have hqn := hq0.2
    unfold qX9_tryGoals_35 at hqa
    refine rj_iload_n 3 dX9_tryGoals_35 rfl rfl ?_
    refine rj_iconst (v := 4) dX9_tryGoals_36 rfl (by decide) ?_
    refine rj_icmp_ge dX9_tryGoals_37 rfl rfl (fun h5 => ?_) (fun h5 => ?_)
    · exact absurd h5 hg35
    · refine rj_aload_n 0 dX9_tryGoals_40 rfl rfl ?_
      refine rj_iload_n 3 dX9_tryGoals_41 rfl rfl ?_
      refine rj_iload_n 1 dX9_tryGoals_42 rfl rfl ?_
      refine rj_cV (rest := []) (sX9_hasRoom (g := g) (ω := ω) hω s35 (nI j35) a1   ) gX9_tryGoals_X9_hasRoom (rj_lt hω (k := 47) rfl) (rj_sh hω ly_47) rfl rfl hVX9_hasRoom ⟨by omega, by omega⟩ dX9_tryGoals_43 rfl rfl rfl (Nat.le_of_ble_eq_true rfl) rfl (Nat.le_of_ble_eq_true rfl) rfl ?_
      refine rj_if_eq dX9_tryGoals_46 rfl rfl (fun h6 => ?_) (fun h6 => ?_)
      · have hq7 := hqa; rw [if_pos h6] at hq7
        refine rj_iinc (v := nI (j35 + 1)) (l' := [(3, .int (nI (j35 + 1))), (0, .ref (ω.2.2 47)), (1, .int a1), (2, .int a2)]) 3 dX9_tryGoals_64 rfl rfl (nI_succ j35).symm (rj_bl rfl) rfl ?_
        refine rj_goto dX9_tryGoals_67 rfl ?_
        have e : bX9_tryGoals_35 n rc μ a1 a2 j35 s35 = s35 := by unfold bX9_tryGoals_35; rw [if_pos h6]; try rfl
        exact rj_sub (l' := [(0, .ref (ω.2.2 47)), (1, .int a1), (2, .int a2), (3, .int (nI (j35 + 1)))]) [1, 2, 3, 0] rfl (ih (j35 + 1) s35 (by omega) (by have hz := hqn; rw [e] at hz; exact hz) (by rw [rj_fo_s, e] at K; exact K))
      · have hq8 := hqa; rw [if_neg h6] at hq8
        refine rj_aload_n 0 dX9_tryGoals_49 rfl rfl ?_
        refine rj_getR (C0 := RX9) (T := TX9) (N := 8) (j := 6) (r := 50) dX9_tryGoals_50 rfl vX9_tryGoals_9 rfl (rj_lt hω (k := 47) rfl) (rj_sh hω ly_47) (by decide) kX9_tryGoals_26 rfl ?_
        refine rj_iload_n 1 dX9_tryGoals_53 rfl rfl ?_
        refine rj_iload_n 3 dX9_tryGoals_54 rfl rfl ?_
        refine rj_iast dX9_tryGoals_55 rfl (rj_lt hω (k := 50) rfl) (rj_sh hω ly_50) (rj_in (Int32.not_lt.mpr h2) (Int32.not_le.mpr h4) rfl) ?_
        refine rj_aload_n 0 dX9_tryGoals_56 rfl rfl ?_
        refine rj_iload_n 1 dX9_tryGoals_57 rfl rfl ?_
        refine rj_iconst (v := 1) dX9_tryGoals_58 rfl (by decide) ?_
        refine rj_iadd dX9_tryGoals_59 rfl ?_
        refine rj_iload_n 2 dX9_tryGoals_60 rfl rfl ?_
        refine rj_cS (rest := []) (hrc (rj_pi s35 50 a1.toNatClampNeg (nI j35)) (a1 + 1) a2  (hq8).1) gX9_tryGoals_X9_tryGoals rfl hSX9_tryGoals ⟨by omega, by omega⟩ dX9_tryGoals_61 rfl rfl rfl (Nat.le_of_ble_eq_true rfl) rfl (Nat.le_of_ble_eq_true rfl) rfl ?_
        refine rj_iinc (v := nI (j35 + 1)) (l' := [(3, .int (nI (j35 + 1))), (0, .ref (ω.2.2 47)), (1, .int a1), (2, .int a2)]) 3 dX9_tryGoals_64 rfl rfl (nI_succ j35).symm (rj_bl rfl) rfl ?_
        refine rj_goto dX9_tryGoals_67 rfl ?_
        have e : bX9_tryGoals_35 n rc μ a1 a2 j35 s35 = (rc (rj_pi s35 50 a1.toNatClampNeg (nI j35)) (a1 + 1) a2) := by unfold bX9_tryGoals_35; rw [if_neg h6]; try rfl
        exact rj_sub (l' := [(0, .ref (ω.2.2 47)), (1, .int a1), (2, .int a2), (3, .int (nI (j35 + 1)))]) [1, 2, 3, 0] rfl (ih (j35 + 1) (rc (rj_pi s35 50 a1.toNatClampNeg (nI j35)) (a1 + 1) a2) (by omega) (by have hz := hqn; rw [e] at hz; exact hz) (by rw [rj_fo_s, e] at K; exact K))
def mX9_tryGoals : Nat → rj_M → Int32 → Int32 → rj_M
  | 0, μ, _, _ => μ
  | n + 1, μ, a1, a2 => (if (μ.1 47 7) ≤ a2 then μ else (if 0 ≤ a1 then (if (μ.1 47 5) ≤ a1 then (mX9_keepTried μ a2) else (if a1 < 6 then ((mX9_tryGoals n) (rj_pi (rj_fo (bX9_tryGoals_35 n (mX9_tryGoals n) μ a1 a2) 4 0 μ) 50 a1.toNatClampNeg 4) (a1 + 1) (a2 + 1)) else (mX9_keepTried μ a2))) else μ))
theorem mX9_tryGoals_s (n : Nat) (μ : rj_M) (a1 : Int32) (a2 : Int32) : mX9_tryGoals (n + 1) μ a1 a2 = (if (μ.1 47 7) ≤ a2 then μ else (if 0 ≤ a1 then (if (μ.1 47 5) ≤ a1 then (mX9_keepTried μ a2) else (if a1 < 6 then ((mX9_tryGoals n) (rj_pi (rj_fo (bX9_tryGoals_35 n (mX9_tryGoals n) μ a1 a2) 4 0 μ) 50 a1.toNatClampNeg 4) (a1 + 1) (a2 + 1)) else (mX9_keepTried μ a2))) else μ)) := rfl
def qX9_tryGoals : Nat → rj_M → Int32 → Int32 → Prop
  | 0, _, _, _ => False
  | n + 1, μ, a1, a2 => (if (μ.1 47 7) ≤ a2 then True else (if 0 ≤ a1 then (if (μ.1 47 5) ≤ a1 then True else (if a1 < 6 then (rq_fo (qX9_tryGoals_35 n (mX9_tryGoals n) (qX9_tryGoals n) μ a1 a2) (bX9_tryGoals_35 n (mX9_tryGoals n) μ a1 a2) 4 0 μ ∧ ((qX9_tryGoals n) (rj_pi (rj_fo (bX9_tryGoals_35 n (mX9_tryGoals n) μ a1 a2) 4 0 μ) 50 a1.toNatClampNeg 4) (a1 + 1) (a2 + 1) ∧ True)) else True)) else True))
theorem qX9_tryGoals_s (n : Nat) (μ : rj_M) (a1 : Int32) (a2 : Int32) : qX9_tryGoals (n + 1) μ a1 a2 = (if (μ.1 47 7) ≤ a2 then True else (if 0 ≤ a1 then (if (μ.1 47 5) ≤ a1 then True else (if a1 < 6 then (rq_fo (qX9_tryGoals_35 n (mX9_tryGoals n) (qX9_tryGoals n) μ a1 a2) (bX9_tryGoals_35 n (mX9_tryGoals n) μ a1 a2) 4 0 μ ∧ ((qX9_tryGoals n) (rj_pi (rj_fo (bX9_tryGoals_35 n (mX9_tryGoals n) μ a1 a2) 4 0 μ) 50 a1.toNatClampNeg 4) (a1 + 1) (a2 + 1) ∧ True)) else True)) else True)) := rfl
set_option maxHeartbeats 40000000 in
set_option maxRecDepth 100000 in
theorem sX9_tryGoals {g : rj_G} {ω : rj_W} (hω : rj_ok ω) : ∀ (n : Nat) (μ : rj_M) (a1 : Int32) (a2 : Int32), qX9_tryGoals n μ a1 a2 → rj_Sp g yX9_tryGoals wsX9_tryGoals (rj_rm (4 + n) 0) [.ref (ω.2.2 47), .int a1, .int a2] ω μ (rj_D (.inl none) ω (mX9_tryGoals n μ a1 a2)) := by
  intro n
  induction n with
  | zero =>
    intro μ a1 a2  hq
    exact hq.elim
  | succ n ih =>
    intro μ a1 a2  hq
    have hqa := hq
    rw [qX9_tryGoals_s] at hqa
    refine rj_of' (cc := cX9_tryGoals) (nL := 4) (ret := none) (own := RX9) (l0 := [(0, .ref (ω.2.2 47)), (1, .int a1), (2, .int a2)]) rfl (by decide +kernel) rfl (Nat.le_of_ble_eq_true rfl) rfl ?_
    refine rj_iload_n 2 dX9_tryGoals_0 rfl rfl ?_
    refine rj_aload_n 0 dX9_tryGoals_1 rfl rfl ?_
    refine rj_getI (C0 := RX9) (T := TX9) (N := 8) (j := 7) dX9_tryGoals_2 rfl vX9_tryGoals_9 rfl (rj_lt hω (k := 47) rfl) (rj_sh hω ly_47) (by decide) kX9_tryGoals_29 rfl ?_
    refine rj_icmp_ge dX9_tryGoals_5 rfl rfl (fun h1 => ?_) (fun h1 => ?_)
    · have hq1 := hqa; rw [if_pos h1] at hq1
      exact rj_vret dX9_tryGoals_12 rfl (Nat.le_of_ble_eq_true rfl) (Nat.le_of_ble_eq_true rfl) ⟨rfl, rfl, (by rw [mX9_tryGoals_s]; rw [if_pos h1]; try rfl)⟩
    · have hq2 := hqa; rw [if_neg h1] at hq2
      refine rj_iload_n 1 dX9_tryGoals_8 rfl rfl ?_
      refine rj_if_ge dX9_tryGoals_9 rfl rfl (fun h2 => ?_) (fun h2 => ?_)
      · have hq3 := hq2; rw [if_pos h2] at hq3
        refine rj_iload_n 1 dX9_tryGoals_13 rfl rfl ?_
        refine rj_aload_n 0 dX9_tryGoals_14 rfl rfl ?_
        refine rj_getI (C0 := RX9) (T := TX9) (N := 8) (j := 5) dX9_tryGoals_15 rfl vX9_tryGoals_9 rfl (rj_lt hω (k := 47) rfl) (rj_sh hω ly_47) (by decide) kX9_tryGoals_22 rfl ?_
        refine rj_icmp_ge dX9_tryGoals_18 rfl rfl (fun h3 => ?_) (fun h3 => ?_)
        · have hq4 := hq3; rw [if_pos h3] at hq4
          refine rj_aload_n 0 dX9_tryGoals_27 rfl rfl ?_
          refine rj_iload_n 2 dX9_tryGoals_28 rfl rfl ?_
          refine rj_cV (rest := []) (sX9_keepTried (g := g) (ω := ω) hω μ a2   ) gX9_tryGoals_X9_keepTried (rj_lt hω (k := 47) rfl) (rj_sh hω ly_47) rfl rfl hVX9_keepTried ⟨by omega, by omega⟩ dX9_tryGoals_29 rfl rfl rfl (Nat.le_of_ble_eq_true rfl) rfl (Nat.le_of_ble_eq_true rfl) rfl ?_
          exact rj_vret dX9_tryGoals_32 rfl (Nat.le_of_ble_eq_true rfl) (Nat.le_of_ble_eq_true rfl) ⟨rfl, rfl, (by rw [mX9_tryGoals_s]; rw [if_neg h1]; rw [if_pos h2]; rw [if_pos h3]; try rfl)⟩
        · have hq5 := hq3; rw [if_neg h3] at hq5
          refine rj_iload_n 1 dX9_tryGoals_21 rfl rfl ?_
          refine rj_bipush (v := 6) dX9_tryGoals_22 rfl (by decide) ?_
          refine rj_icmp_lt dX9_tryGoals_24 rfl rfl (fun h4 => ?_) (fun h4 => ?_)
          · have hq6 := hq5; rw [if_pos h4] at hq6
            refine rj_iconst (v := 0) dX9_tryGoals_33 rfl (by decide) ?_
            refine rj_istore_n (l' := [(3, .int 0), (0, .ref (ω.2.2 47)), (1, .int a1), (2, .int a2)]) dX9_tryGoals_34 rfl (rj_bl rfl) rfl ?_
            refine rj_sub (l' := [(0, .ref (ω.2.2 47)), (1, .int a1), (2, .int a2), (3, .int (nI 0))]) [1, 2, 3, 0] rfl ?_
            refine lX9_tryGoals_35 hω n (mX9_tryGoals n) (qX9_tryGoals n) μ a1 a2     ih h1 h2 h3 h4 4 0 μ rfl (hq6).1 ?_
            refine rj_aload_n 0 dX9_tryGoals_70 rfl rfl ?_
            refine rj_getR (C0 := RX9) (T := TX9) (N := 8) (j := 6) (r := 50) dX9_tryGoals_71 rfl vX9_tryGoals_9 rfl (rj_lt hω (k := 47) rfl) (rj_sh hω ly_47) (by decide) kX9_tryGoals_26 rfl ?_
            refine rj_iload_n 1 dX9_tryGoals_74 rfl rfl ?_
            refine rj_iconst (v := 4) dX9_tryGoals_75 rfl (by decide) ?_
            refine rj_iast dX9_tryGoals_76 rfl (rj_lt hω (k := 50) rfl) (rj_sh hω ly_50) (rj_in (Int32.not_lt.mpr h2) (Int32.not_le.mpr h4) rfl) ?_
            refine rj_aload_n 0 dX9_tryGoals_77 rfl rfl ?_
            refine rj_iload_n 1 dX9_tryGoals_78 rfl rfl ?_
            refine rj_iconst (v := 1) dX9_tryGoals_79 rfl (by decide) ?_
            refine rj_iadd dX9_tryGoals_80 rfl ?_
            refine rj_iload_n 2 dX9_tryGoals_81 rfl rfl ?_
            refine rj_iconst (v := 1) dX9_tryGoals_82 rfl (by decide) ?_
            refine rj_iadd dX9_tryGoals_83 rfl ?_
            refine rj_cS (rest := []) (ih (rj_pi (rj_fo (bX9_tryGoals_35 n (mX9_tryGoals n) μ a1 a2) 4 0 μ) 50 a1.toNatClampNeg 4) (a1 + 1) (a2 + 1)  ((hq6).2).1) gX9_tryGoals_X9_tryGoals rfl hSX9_tryGoals ⟨by omega, by omega⟩ dX9_tryGoals_84 rfl rfl rfl (Nat.le_of_ble_eq_true rfl) rfl (Nat.le_of_ble_eq_true rfl) rfl ?_
            exact rj_vret dX9_tryGoals_87 rfl (Nat.le_of_ble_eq_true rfl) (Nat.le_of_ble_eq_true rfl) ⟨rfl, rfl, (by rw [mX9_tryGoals_s]; rw [if_neg h1]; rw [if_pos h2]; rw [if_neg h3]; rw [if_pos h4]; try rfl)⟩
          · have hq9 := hq5; rw [if_neg h4] at hq9
            refine rj_aload_n 0 dX9_tryGoals_27 rfl rfl ?_
            refine rj_iload_n 2 dX9_tryGoals_28 rfl rfl ?_
            refine rj_cV (rest := []) (sX9_keepTried (g := g) (ω := ω) hω μ a2   ) gX9_tryGoals_X9_keepTried (rj_lt hω (k := 47) rfl) (rj_sh hω ly_47) rfl rfl hVX9_keepTried ⟨by omega, by omega⟩ dX9_tryGoals_29 rfl rfl rfl (Nat.le_of_ble_eq_true rfl) rfl (Nat.le_of_ble_eq_true rfl) rfl ?_
            exact rj_vret dX9_tryGoals_32 rfl (Nat.le_of_ble_eq_true rfl) (Nat.le_of_ble_eq_true rfl) ⟨rfl, rfl, (by rw [mX9_tryGoals_s]; rw [if_neg h1]; rw [if_pos h2]; rw [if_neg h3]; rw [if_neg h4]; try rfl)⟩
      · have hq10 := hq2; rw [if_neg h2] at hq10
        exact rj_vret dX9_tryGoals_12 rfl (Nat.le_of_ble_eq_true rfl) (Nat.le_of_ble_eq_true rfl) ⟨rfl, rfl, (by rw [mX9_tryGoals_s]; rw [if_neg h1]; rw [if_neg h2]; try rfl)⟩
theorem hSX9_make : yX9_make.cls ≠ "java/lang/invoke/MethodHandle" ∧ yX9_make.cls ≠ "java/lang/invoke/VarHandle" ∧ (parseMethodDescriptor yX9_make.desc).map (fun d => d.parameters.length) = some 2 := by decide +kernel
theorem hVX9_make : yX9_make.cls = RX9 ∧ yX9_make.cls ≠ "java/lang/invoke/MethodHandle" ∧ yX9_make.cls ≠ "java/lang/invoke/VarHandle" ∧ (parseMethodDescriptor yX9_make.desc).map (fun d => d.parameters.length) = some 2 := by decide +kernel
theorem vX9_make_9 : ∀ w ∈ u_ws RX9 TX9 8, w ∈ wsX9_make := by decide +kernel
theorem kX9_make_15 : Cond.fieldLink RX9 15 (TX9 3).1 (TX9 3).2.1 (TX9 3).2.2.1 ∈ wsX9_make := by decide +kernel
theorem jX9_make_59_i : Cond.initialized yX11_fillRow.cls ∈ wsX9_make := by decide +kernel
theorem jX9_make_59_s : Cond.static yX11_fillRow ∈ wsX9_make := by decide +kernel
theorem jX9_make_59_n : (RX9, 59, yX11_fillRow, "Festivalgrounds") ∈ rj_nw := by decide +kernel
theorem kX9_make_22 : Cond.fieldLink RX9 22 (TX9 5).1 (TX9 5).2.1 (TX9 5).2.2.1 ∈ wsX9_make := by decide +kernel
theorem kX9_make_19 : Cond.fieldLink RX9 19 (TX9 4).1 (TX9 4).2.1 (TX9 4).2.2.1 ∈ wsX9_make := by decide +kernel
theorem kX9_make_29 : Cond.fieldLink RX9 29 (TX9 7).1 (TX9 7).2.1 (TX9 7).2.2.1 ∈ wsX9_make := by decide +kernel
theorem kX9_make_9 : Cond.fieldLink RX9 9 (TX9 2).1 (TX9 2).2.1 (TX9 2).2.2.1 ∈ wsX9_make := by decide +kernel
def bX9_make_15 (μ : rj_M) (a0 : Int32) (a1 : Int32) (j15 : Nat) (s15 : rj_M) : rj_M := (if (fX9_isMet s15 (nI j15) a0 a1) = 0 then s15 else (if 6 ≤ (s15.1 47 5) then s15 else (rj_pi (rj_pi s15 49 (s15.1 47 5).toNatClampNeg (nI j15)) 47 5 (((rj_pi s15 49 (s15.1 47 5).toNatClampNeg (nI j15)).1 47 5) + 1))))
def qX9_make_15 (μ : rj_M) (a0 : Int32) (a1 : Int32) (j15 : Nat) (s15 : rj_M) : Prop := (if (fX9_isMet s15 (nI j15) a0 a1) = 0 then True else (if 6 ≤ (s15.1 47 5) then True else (vp_in (s15.1 47 5) 6 ∧ True)))
set_option maxHeartbeats 4000000 in
set_option maxRecDepth 100000 in
theorem lX9_make_15 {g : rj_G} {ω : rj_W} (hω : rj_ok ω) (μ : rj_M) (a0 : Int32) (a1 : Int32)      {F : rj_F} : ∀ (r j : Nat) (s : rj_M), j + r = 16 → rq_fo (qX9_make_15 μ a0 a1) (bX9_make_15 μ a0 a1) r j s → (rj_R g RX9 cX9_make 4 (some .int) wsX9_make [] (rj_rm 12 0) F 0 ω (rj_fo (bX9_make_15 μ a0 a1) r j s) [(0, .ref (ω.2.2 47)), (1, .int a0), (2, .int a1), (3, .int (nI 16))] 66 []) → rj_R g RX9 cX9_make 4 (some .int) wsX9_make [] (rj_rm 12 0) F 0 ω s [(0, .ref (ω.2.2 47)), (1, .int a0), (2, .int a1), (3, .int (nI j))] 15 [] := by
  intro r
  induction r with
  | zero =>
    intro j s hj hq0 K
    have e0 : j = 16 := by omega
    have hge : 16 ≤ nI j := by
      rw [e0]
      exact Int32.le_refl _
    refine rj_iload_n 3 dX9_make_15 rfl rfl ?_
    refine rj_bipush (v := 16) dX9_make_16 rfl (by decide) ?_
    refine rj_icmp_ge dX9_make_18 rfl rfl (fun h4 => ?_) (fun h4 => ?_)
    · have e1 : nI j = nI 16 := by rw [e0]
      rw [e1]
      exact K
    · exact absurd hge h4
  | succ r ih =>
    intro j15 s15 hj hq0 K
    have hl15 : j15 < 16 := by omega
    have hg15 : ¬ 16 ≤ nI j15 := nI_ge hl15 (rj_bl rfl)
    rw [rq_fo_s] at hq0
    have hqa := hq0.1
    have hqn := hq0.2
    unfold qX9_make_15 at hqa
    refine rj_iload_n 3 dX9_make_15 rfl rfl ?_
    refine rj_bipush (v := 16) dX9_make_16 rfl (by decide) ?_
    refine rj_icmp_ge dX9_make_18 rfl rfl (fun h1 => ?_) (fun h1 => ?_)
    · exact absurd h1 hg15
    · refine rj_aload_n 0 dX9_make_21 rfl rfl ?_
      refine rj_iload_n 3 dX9_make_22 rfl rfl ?_
      refine rj_iload_n 1 dX9_make_23 rfl rfl ?_
      refine rj_iload_n 2 dX9_make_24 rfl rfl ?_
      refine rj_cV (rest := []) (sX9_isMet (g := g) (ω := ω) hω s15 (nI j15) a0 a1   ) gX9_make_X9_isMet (rj_lt hω (k := 47) rfl) (rj_sh hω ly_47) rfl rfl hVX9_isMet ⟨Nat.le_of_ble_eq_true rfl, Nat.le_of_ble_eq_true rfl⟩ dX9_make_25 rfl rfl rfl (Nat.le_of_ble_eq_true rfl) rfl (Nat.le_of_ble_eq_true rfl) rfl ?_
      refine rj_if_eq dX9_make_28 rfl rfl (fun h2 => ?_) (fun h2 => ?_)
      · have hq1 := hqa; rw [if_pos h2] at hq1
        refine rj_iinc (v := nI (j15 + 1)) (l' := [(3, .int (nI (j15 + 1))), (0, .ref (ω.2.2 47)), (1, .int a0), (2, .int a1)]) 3 dX9_make_60 rfl rfl (nI_succ j15).symm (rj_bl rfl) rfl ?_
        refine rj_goto dX9_make_63 rfl ?_
        have e : bX9_make_15 μ a0 a1 j15 s15 = s15 := by unfold bX9_make_15; rw [if_pos h2]; try rfl
        exact rj_sub (l' := [(0, .ref (ω.2.2 47)), (1, .int a0), (2, .int a1), (3, .int (nI (j15 + 1)))]) [1, 2, 3, 0] rfl (ih (j15 + 1) s15 (by omega) (by have hz := hqn; rw [e] at hz; exact hz) (by rw [rj_fo_s, e] at K; exact K))
      · have hq2 := hqa; rw [if_neg h2] at hq2
        refine rj_aload_n 0 dX9_make_31 rfl rfl ?_
        refine rj_getI (C0 := RX9) (T := TX9) (N := 8) (j := 5) dX9_make_32 rfl vX9_make_9 rfl (rj_lt hω (k := 47) rfl) (rj_sh hω ly_47) (by decide) kX9_make_22 rfl ?_
        refine rj_bipush (v := 6) dX9_make_35 rfl (by decide) ?_
        refine rj_icmp_ge dX9_make_37 rfl rfl (fun h3 => ?_) (fun h3 => ?_)
        · have hq3 := hq2; rw [if_pos h3] at hq3
          refine rj_iinc (v := nI (j15 + 1)) (l' := [(3, .int (nI (j15 + 1))), (0, .ref (ω.2.2 47)), (1, .int a0), (2, .int a1)]) 3 dX9_make_60 rfl rfl (nI_succ j15).symm (rj_bl rfl) rfl ?_
          refine rj_goto dX9_make_63 rfl ?_
          have e : bX9_make_15 μ a0 a1 j15 s15 = s15 := by unfold bX9_make_15; rw [if_neg h2]; rw [if_pos h3]; try rfl
          exact rj_sub (l' := [(0, .ref (ω.2.2 47)), (1, .int a0), (2, .int a1), (3, .int (nI (j15 + 1)))]) [1, 2, 3, 0] rfl (ih (j15 + 1) s15 (by omega) (by have hz := hqn; rw [e] at hz; exact hz) (by rw [rj_fo_s, e] at K; exact K))
        · have hq4 := hq2; rw [if_neg h3] at hq4
          refine rj_aload_n 0 dX9_make_40 rfl rfl ?_
          refine rj_getR (C0 := RX9) (T := TX9) (N := 8) (j := 4) (r := 49) dX9_make_41 rfl vX9_make_9 rfl (rj_lt hω (k := 47) rfl) (rj_sh hω ly_47) (by decide) kX9_make_19 rfl ?_
          refine rj_aload_n 0 dX9_make_44 rfl rfl ?_
          refine rj_getI (C0 := RX9) (T := TX9) (N := 8) (j := 5) dX9_make_45 rfl vX9_make_9 rfl (rj_lt hω (k := 47) rfl) (rj_sh hω ly_47) (by decide) kX9_make_22 rfl ?_
          refine rj_iload_n 3 dX9_make_48 rfl rfl ?_
          refine rj_iast dX9_make_49 rfl (rj_lt hω (k := 49) rfl) (rj_sh hω ly_49) (hq4).1 ?_
          refine rj_aload_n 0 dX9_make_50 rfl rfl ?_
          refine rj_dup dX9_make_51 rfl rfl ?_
          refine rj_getI (C0 := RX9) (T := TX9) (N := 8) (j := 5) dX9_make_52 rfl vX9_make_9 rfl (rj_lt hω (k := 47) rfl) (rj_sh hω ly_47) (by decide) kX9_make_22 rfl ?_
          refine rj_iconst (v := 1) dX9_make_55 rfl (by decide) ?_
          refine rj_iadd dX9_make_56 rfl ?_
          refine rj_putI (C0 := RX9) (T := TX9) (N := 8) (j := 5) dX9_make_57 rfl vX9_make_9 rfl (rj_lt hω (k := 47) rfl) (rj_sh hω ly_47) (by decide) kX9_make_22 tyX9 tyX9_ok nmX9 rfl rfl rfl rfl ?_
          refine rj_iinc (v := nI (j15 + 1)) (l' := [(3, .int (nI (j15 + 1))), (0, .ref (ω.2.2 47)), (1, .int a0), (2, .int a1)]) 3 dX9_make_60 rfl rfl (nI_succ j15).symm (rj_bl rfl) rfl ?_
          refine rj_goto dX9_make_63 rfl ?_
          have e : bX9_make_15 μ a0 a1 j15 s15 = (rj_pi (rj_pi s15 49 (s15.1 47 5).toNatClampNeg (nI j15)) 47 5 (((rj_pi s15 49 (s15.1 47 5).toNatClampNeg (nI j15)).1 47 5) + 1)) := by unfold bX9_make_15; rw [if_neg h2]; rw [if_neg h3]; try rfl
          exact rj_sub (l' := [(0, .ref (ω.2.2 47)), (1, .int a0), (2, .int a1), (3, .int (nI (j15 + 1)))]) [1, 2, 3, 0] rfl (ih (j15 + 1) (rj_pi (rj_pi s15 49 (s15.1 47 5).toNatClampNeg (nI j15)) 47 5 (((rj_pi s15 49 (s15.1 47 5).toNatClampNeg (nI j15)).1 47 5) + 1)) (by omega) (by have hz := hqn; rw [e] at hz; exact hz) (by rw [rj_fo_s, e] at K; exact K))
def fX9_make (μ : rj_M) (a0 : Int32) (a1 : Int32) : Int32 := ((rj_pi (mX9_tryGoals 7 (rj_pi (rj_fo (bX9_make_15 μ a0 a1) 16 0 (rj_pi (mX11_fillRow μ 48 16 (-1)) 47 5 0)) 47 7 (((rj_fo (bX9_make_15 μ a0 a1) 16 0 (rj_pi (mX11_fillRow μ 48 16 (-1)) 47 5 0)).1 47 5) + 1)) 0 0) 47 2 1).1 47 7)
def mX9_make (μ : rj_M) (a0 : Int32) (a1 : Int32) : rj_M := (rj_pi (mX9_tryGoals 7 (rj_pi (rj_fo (bX9_make_15 μ a0 a1) 16 0 (rj_pi (mX11_fillRow μ 48 16 (-1)) 47 5 0)) 47 7 (((rj_fo (bX9_make_15 μ a0 a1) 16 0 (rj_pi (mX11_fillRow μ 48 16 (-1)) 47 5 0)).1 47 5) + 1)) 0 0) 47 2 1)
def qX9_make (μ : rj_M) (a0 : Int32) (a1 : Int32) : Prop := (rq_fo (qX9_make_15 μ a0 a1) (bX9_make_15 μ a0 a1) 16 0 (rj_pi (mX11_fillRow μ 48 16 (-1)) 47 5 0) ∧ (qX9_tryGoals 7 (rj_pi (rj_fo (bX9_make_15 μ a0 a1) 16 0 (rj_pi (mX11_fillRow μ 48 16 (-1)) 47 5 0)) 47 7 (((rj_fo (bX9_make_15 μ a0 a1) 16 0 (rj_pi (mX11_fillRow μ 48 16 (-1)) 47 5 0)).1 47 5) + 1)) 0 0 ∧ True))
set_option maxHeartbeats 40000000 in
set_option maxRecDepth 100000 in
theorem sX9_make {g : rj_G} {ω : rj_W} (hω : rj_ok ω) (μ : rj_M) (a0 : Int32) (a1 : Int32)   (hq : qX9_make μ a0 a1) : rj_Sp g yX9_make wsX9_make (rj_rm 12 0) [.ref (ω.2.2 47), .int a0, .int a1] ω μ (rj_D (.inl (some (.int (fX9_make μ a0 a1)))) ω (mX9_make μ a0 a1)) := by
  have hqa := hq
  unfold qX9_make at hqa
  refine rj_of' (cc := cX9_make) (nL := 4) (ret := (some .int)) (own := RX9) (l0 := [(0, .ref (ω.2.2 47)), (1, .int a0), (2, .int a1)]) rfl (by decide +kernel) rfl (Nat.le_of_ble_eq_true rfl) rfl ?_
  refine rj_aload_n 0 dX9_make_0 rfl rfl ?_
  refine rj_getR (C0 := RX9) (T := TX9) (N := 8) (j := 3) (r := 48) dX9_make_1 rfl vX9_make_9 rfl (rj_lt hω (k := 47) rfl) (rj_sh hω ly_47) (by decide) kX9_make_15 rfl ?_
  refine rj_iconst (v := (-1)) dX9_make_4 rfl (by decide) ?_
  refine rj_cSN (rest := []) (sX11_fillRow (g := g) (ω := ω) μ 48 16 (-1) (rj_lt hω (k := 48) rfl) (rj_sh hω ly_48) (rj_bl rfl)  ) ggX9_make_X11_fillRow jX9_make_59_i jX9_make_59_s jX9_make_59_n rfl hSX11_fillRow ⟨Nat.le_of_ble_eq_true rfl, Nat.le_of_ble_eq_true rfl⟩ dX9_make_5 rfl rfl rfl (Nat.le_of_ble_eq_true rfl) rfl (Nat.le_of_ble_eq_true rfl) rfl ?_
  refine rj_aload_n 0 dX9_make_8 rfl rfl ?_
  refine rj_iconst (v := 0) dX9_make_9 rfl (by decide) ?_
  refine rj_putI (C0 := RX9) (T := TX9) (N := 8) (j := 5) dX9_make_10 rfl vX9_make_9 rfl (rj_lt hω (k := 47) rfl) (rj_sh hω ly_47) (by decide) kX9_make_22 tyX9 tyX9_ok nmX9 rfl rfl rfl rfl ?_
  refine rj_iconst (v := 0) dX9_make_13 rfl (by decide) ?_
  refine rj_istore_n (l' := [(3, .int 0), (0, .ref (ω.2.2 47)), (1, .int a0), (2, .int a1)]) dX9_make_14 rfl (rj_bl rfl) rfl ?_
  refine rj_sub (l' := [(0, .ref (ω.2.2 47)), (1, .int a0), (2, .int a1), (3, .int (nI 0))]) [1, 2, 3, 0] rfl ?_
  refine lX9_make_15 hω μ a0 a1      16 0 (rj_pi (mX11_fillRow μ 48 16 (-1)) 47 5 0) rfl (hqa).1 ?_
  refine rj_aload_n 0 dX9_make_66 rfl rfl ?_
  refine rj_aload_n 0 dX9_make_67 rfl rfl ?_
  refine rj_getI (C0 := RX9) (T := TX9) (N := 8) (j := 5) dX9_make_68 rfl vX9_make_9 rfl (rj_lt hω (k := 47) rfl) (rj_sh hω ly_47) (by decide) kX9_make_22 rfl ?_
  refine rj_iconst (v := 1) dX9_make_71 rfl (by decide) ?_
  refine rj_iadd dX9_make_72 rfl ?_
  refine rj_putI (C0 := RX9) (T := TX9) (N := 8) (j := 7) dX9_make_73 rfl vX9_make_9 rfl (rj_lt hω (k := 47) rfl) (rj_sh hω ly_47) (by decide) kX9_make_29 tyX9 tyX9_ok nmX9 rfl rfl rfl rfl ?_
  refine rj_aload_n 0 dX9_make_76 rfl rfl ?_
  refine rj_iconst (v := 0) dX9_make_77 rfl (by decide) ?_
  refine rj_iconst (v := 0) dX9_make_78 rfl (by decide) ?_
  refine rj_cS (rest := []) (sX9_tryGoals (g := g) (ω := ω) hω 7 (rj_pi (rj_fo (bX9_make_15 μ a0 a1) 16 0 (rj_pi (mX11_fillRow μ 48 16 (-1)) 47 5 0)) 47 7 (((rj_fo (bX9_make_15 μ a0 a1) 16 0 (rj_pi (mX11_fillRow μ 48 16 (-1)) 47 5 0)).1 47 5) + 1)) 0 0   ((hqa).2).1) gX9_make_X9_tryGoals rfl hSX9_tryGoals ⟨Nat.le_of_ble_eq_true rfl, Nat.le_of_ble_eq_true rfl⟩ dX9_make_79 rfl rfl rfl (Nat.le_of_ble_eq_true rfl) rfl (Nat.le_of_ble_eq_true rfl) rfl ?_
  refine rj_aload_n 0 dX9_make_82 rfl rfl ?_
  refine rj_iconst (v := 1) dX9_make_83 rfl (by decide) ?_
  refine rj_putI (C0 := RX9) (T := TX9) (N := 8) (j := 2) dX9_make_84 rfl vX9_make_9 rfl (rj_lt hω (k := 47) rfl) (rj_sh hω ly_47) (by decide) kX9_make_9 tyX9 tyX9_ok nmX9 rfl rfl (by decide) rfl ?_
  refine rj_aload_n 0 dX9_make_87 rfl rfl ?_
  refine rj_getI (C0 := RX9) (T := TX9) (N := 8) (j := 7) dX9_make_88 rfl vX9_make_9 rfl (rj_lt hω (k := 47) rfl) (rj_sh hω ly_47) (by decide) kX9_make_29 rfl ?_
  exact rj_iret dX9_make_91 rfl (Nat.le_of_ble_eq_true rfl) (Nat.le_of_ble_eq_true rfl) ⟨(by unfold fX9_make; rfl), rfl, (by unfold mX9_make; rfl)⟩
theorem hSX11_rain : yX11_rain.cls ≠ "java/lang/invoke/MethodHandle" ∧ yX11_rain.cls ≠ "java/lang/invoke/VarHandle" ∧ (parseMethodDescriptor yX11_rain.desc).map (fun d => d.parameters.length) = some 2 := by decide +kernel
theorem hVX11_rain : yX11_rain.cls = RX11 ∧ yX11_rain.cls ≠ "java/lang/invoke/MethodHandle" ∧ yX11_rain.cls ≠ "java/lang/invoke/VarHandle" ∧ (parseMethodDescriptor yX11_rain.desc).map (fun d => d.parameters.length) = some 2 := by decide +kernel
theorem vX11_rain_11 : ∀ w ∈ u_ws RX11 TX11 6, w ∈ wsX11_rain := by decide +kernel
theorem kX11_rain_40 : Cond.fieldLink RX11 40 (TX11 3).1 (TX11 3).2.1 (TX11 3).2.2.1 ∈ wsX11_rain := by decide +kernel
theorem xkX11_rain_108 : Cond.classLink RX11 108 "java/lang/IllegalStateException" ∈ wsX11_rain := by decide +kernel
theorem xiX11_rain_108 : Cond.initialized "java/lang/IllegalStateException" ∈ wsX11_rain := by decide +kernel
theorem xaX11_rain_112 : ∀ w ∈ (vx_atS RX11 112 "java/lang/IllegalStateException" rj_exn).filter goodWord, w ∈ wsX11_rain := by decide +kernel
theorem xbX11_rain_112 : ∀ w ∈ (vx_atS RX11 112 "java/lang/IllegalStateException" rj_exn).filter (fun w => !goodWord w), w ∈ Cond.castable "java/lang/IllegalStateException" "java/lang/IllegalStateException" :: rj_dc.map Cond.declares := by decide +kernel
theorem xgX11_rain_112 : ∀ w ∈ Cond.classLink RX11 108 "java/lang/IllegalStateException" :: Cond.initialized "java/lang/IllegalStateException" :: vx_atS RX11 112 "java/lang/IllegalStateException" rj_exn, vx_ot w = true := by decide +kernel
def fX11_rain (μ : rj_M) (a0 : Int32) (a1 : Int32) : Int32 ⊕ String := (rj_bx (fX11_needRange μ a0 0 5759) (rj_bx (fX11_needRange μ a1 (a0 + 1) 5760) (if (fX9_countMet μ a0 a1) ≤ 6 then (.inl (fX9_make μ a0 a1)) else (.inr "java/lang/IllegalStateException"))))
def mX11_rain (μ : rj_M) (a0 : Int32) (a1 : Int32) : rj_M := (rj_bm (fX11_needRange μ a0 0 5759) (rj_bm (fX11_needRange μ a1 (a0 + 1) 5760) (if (fX9_countMet μ a0 a1) ≤ 6 then (mX9_make μ a0 a1) else μ) μ) μ)
def qX11_rain (μ : rj_M) (a0 : Int32) (a1 : Int32) : Prop := (rq_bx (fX11_needRange μ a0 0 5759) (rq_bx (fX11_needRange μ a1 (a0 + 1) 5760) (if (fX9_countMet μ a0 a1) ≤ 6 then (qX9_make μ a0 a1 ∧ True) else True)))
set_option maxHeartbeats 40000000 in
set_option maxRecDepth 100000 in
theorem sX11_rain {g : rj_G} {ω : rj_W} (hω : rj_ok ω) (μ : rj_M) (a0 : Int32) (a1 : Int32)   (hq : qX11_rain μ a0 a1) : rj_Sp g yX11_rain wsX11_rain (rj_rm 13 3) [.ref (ω.2.2 0), .int a0, .int a1] ω μ (rj_D (rj_oi (fX11_rain μ a0 a1)) ω (mX11_rain μ a0 a1)) := by
  have hqa := hq
  unfold qX11_rain at hqa
  refine rj_of' (cc := cX11_rain) (nL := 3) (ret := (some .int)) (own := RX11) (l0 := [(0, .ref (ω.2.2 0)), (1, .int a0), (2, .int a1)]) rfl (by decide +kernel) rfl (Nat.le_of_ble_eq_true rfl) rfl ?_
  refine rj_iload_n 1 dX11_rain_0 rfl rfl ?_
  refine rj_iconst (v := 0) dX11_rain_1 rfl (by decide) ?_
  refine rj_sipush (v := 5759) dX11_rain_2 rfl (by decide) ?_
  refine rj_cSx (rest := []) (sX11_needRange (g := g) (ω := ω) hω μ a0 0 5759   ) gX11_rain_X11_needRange rfl hSX11_needRange ⟨Nat.le_of_ble_eq_true rfl, Nat.le_of_ble_eq_true rfl⟩ dX11_rain_5 rfl rfl rfl (Nat.le_of_ble_eq_true rfl) rfl (Nat.le_of_ble_eq_true rfl) (fun E hE2 => ?_) (fun hx1 => ?_)
  · exact ⟨(by unfold fX11_rain; try (rw [hE2]); try (simp only [rj_bx]); try rfl), rfl, (by unfold mX11_rain; try (rw [hE2]); try (simp only [rj_bm]); try rfl)⟩
  · have hq1 := hqa; rw [hx1] at hq1; simp only [rq_bx] at hq1
    refine rj_iload_n 2 dX11_rain_8 rfl rfl ?_
    refine rj_iload_n 1 dX11_rain_9 rfl rfl ?_
    refine rj_iconst (v := 1) dX11_rain_10 rfl (by decide) ?_
    refine rj_iadd dX11_rain_11 rfl ?_
    refine rj_sipush (v := 5760) dX11_rain_12 rfl (by decide) ?_
    refine rj_cSx (rest := []) (sX11_needRange (g := g) (ω := ω) hω μ a1 (a0 + 1) 5760   ) gX11_rain_X11_needRange rfl hSX11_needRange ⟨Nat.le_of_ble_eq_true rfl, Nat.le_of_ble_eq_true rfl⟩ dX11_rain_15 rfl rfl rfl (Nat.le_of_ble_eq_true rfl) rfl (Nat.le_of_ble_eq_true rfl) (fun E hE4 => ?_) (fun hx3 => ?_)
    · exact ⟨(by unfold fX11_rain; try (rw [hx1]); try (simp only [rj_bx]); try (rw [hE4]); try (simp only [rj_bx]); try rfl), rfl, (by unfold mX11_rain; try (rw [hx1]); try (simp only [rj_bm]); try (rw [hE4]); try (simp only [rj_bm]); try rfl)⟩
    · have hq2 := hq1; rw [hx3] at hq2; simp only [rq_bx] at hq2
      refine rj_aload_n 0 dX11_rain_18 rfl rfl ?_
      refine rj_getR (C0 := RX11) (T := TX11) (N := 6) (j := 3) (r := 47) dX11_rain_19 rfl vX11_rain_11 rfl (rj_lt hω (k := 0) rfl) (rj_sh hω ly_0) (by decide) kX11_rain_40 rfl ?_
      refine rj_iload_n 1 dX11_rain_22 rfl rfl ?_
      refine rj_iload_n 2 dX11_rain_23 rfl rfl ?_
      refine rj_cV (rest := []) (sX9_countMet (g := g) (ω := ω) hω μ a0 a1   ) gX11_rain_X9_countMet (rj_lt hω (k := 47) rfl) (rj_sh hω ly_47) rfl rfl hVX9_countMet ⟨Nat.le_of_ble_eq_true rfl, Nat.le_of_ble_eq_true rfl⟩ dX11_rain_24 rfl rfl rfl (Nat.le_of_ble_eq_true rfl) rfl (Nat.le_of_ble_eq_true rfl) rfl ?_
      refine rj_bipush (v := 6) dX11_rain_27 rfl (by decide) ?_
      refine rj_icmp_le dX11_rain_29 rfl rfl (fun h5 => ?_) (fun h5 => ?_)
      · have hq3 := hq2; rw [if_pos h5] at hq3
        refine rj_aload_n 0 dX11_rain_43 rfl rfl ?_
        refine rj_getR (C0 := RX11) (T := TX11) (N := 6) (j := 3) (r := 47) dX11_rain_44 rfl vX11_rain_11 rfl (rj_lt hω (k := 0) rfl) (rj_sh hω ly_0) (by decide) kX11_rain_40 rfl ?_
        refine rj_iload_n 1 dX11_rain_47 rfl rfl ?_
        refine rj_iload_n 2 dX11_rain_48 rfl rfl ?_
        refine rj_cV (rest := []) (sX9_make (g := g) (ω := ω) hω μ a0 a1   (hq3).1) gX11_rain_X9_make (rj_lt hω (k := 47) rfl) (rj_sh hω ly_47) rfl rfl hVX9_make ⟨Nat.le_of_ble_eq_true rfl, Nat.le_of_ble_eq_true rfl⟩ dX11_rain_49 rfl rfl rfl (Nat.le_of_ble_eq_true rfl) rfl (Nat.le_of_ble_eq_true rfl) rfl ?_
        exact rj_iret dX11_rain_52 rfl (Nat.le_of_ble_eq_true rfl) (Nat.le_of_ble_eq_true rfl) ⟨(by unfold fX11_rain; try (rw [hx1]); try (simp only [rj_bx]); try (rw [hx3]); try (simp only [rj_bx]); try (rw [if_pos h5]); try rfl), rfl, (by unfold mX11_rain; try (rw [hx1]); try (simp only [rj_bm]); try (rw [hx3]); try (simp only [rj_bm]); try (rw [if_pos h5]); try rfl)⟩
      · have hq4 := hq2; rw [if_neg h5] at hq4
        exact rj_throwW (cls := "java/lang/IllegalStateException") (text := "the rain meets more than 6 acts") dX11_rain_32 rfl dX11_rain_35 rfl dX11_rain_36 rfl dX11_rain_39 rfl dX11_rain_42 (by decide +kernel) xkX11_rain_108 xiX11_rain_108 (by decide +kernel) xaX11_rain_112 xbX11_rain_112 (by decide) xgX11_rain_112 (Nat.le_of_ble_eq_true rfl) (Nat.le_of_ble_eq_true rfl) (Nat.le_of_ble_eq_true rfl) ⟨(by unfold fX11_rain; try (rw [hx1]); try (simp only [rj_bx]); try (rw [hx3]); try (simp only [rj_bx]); try (rw [if_neg h5]); try rfl), rfl, (by unfold mX11_rain; try (rw [hx1]); try (simp only [rj_bm]); try (rw [hx3]); try (simp only [rj_bm]); try (rw [if_neg h5]); try rfl)⟩
