theorem hSX3_minutesOut : yX3_minutesOut.cls ≠ "java/lang/invoke/MethodHandle" ∧ yX3_minutesOut.cls ≠ "java/lang/invoke/VarHandle" ∧ (parseMethodDescriptor yX3_minutesOut.desc).map (fun d => d.parameters.length) = some 0 := by decide +kernel
theorem hVX3_minutesOut : yX3_minutesOut.cls = RX3 ∧ yX3_minutesOut.cls ≠ "java/lang/invoke/MethodHandle" ∧ yX3_minutesOut.cls ≠ "java/lang/invoke/VarHandle" ∧ (parseMethodDescriptor yX3_minutesOut.desc).map (fun d => d.parameters.length) = some 0 := by decide +kernel
theorem vX3_minutesOut_3 : ∀ w ∈ u_ws RX3 TX3 3, w ∈ wsX3_minutesOut := by decide +kernel
theorem kX3_minutesOut_18 : Cond.fieldLink RX3 18 (TX3 2).1 (TX3 2).2.1 (TX3 2).2.2.1 ∈ wsX3_minutesOut := by decide +kernel
theorem jX3_minutesOut_29_i : Cond.initialized yX11_sumOf.cls ∈ wsX3_minutesOut := by decide +kernel
theorem jX3_minutesOut_29_s : Cond.static yX11_sumOf ∈ wsX3_minutesOut := by decide +kernel
theorem jX3_minutesOut_29_n : (RX3, 29, yX11_sumOf, "Festivalgrounds") ∈ rj_nw := by decide +kernel
theorem kX3_minutesOut_9 : Cond.fieldLink RX3 9 (TX3 0).1 (TX3 0).2.1 (TX3 0).2.2.1 ∈ wsX3_minutesOut := by decide +kernel
def bX3_minutesOut_30 (μ : rj_M) (s30 : Int32 × Int32) : (Int32 × Int32) ⊕ (Int32 × Int32) := (if s30.2 ≤ 0 then .inr (s30.1, s30.2) else (if (fX3_firstTooFull μ ((s30.1 + s30.2) - 1)) = 0 then .inl (s30.1, (s30.2 / 2)) else .inl ((s30.1 + s30.2), (s30.2 / 2))))
def qX3_minutesOut_30 (μ : rj_M) (s30 : Int32 × Int32) : Prop := True
set_option maxHeartbeats 4000000 in
set_option maxRecDepth 100000 in
theorem lX3_minutesOut_30 {g : rj_G} {ω : rj_W} (hω : rj_ok ω) (μ : rj_M)    (h1 : ¬ ((fX11_sumOf μ 20 4) = 0)) (h2 : ¬ ((fX11_sumOf μ 18 3) = 0)) {F : rj_F} : ∀ (r : Nat) (s : Int32 × Int32), rq_we (qX3_minutesOut_30 μ) (bX3_minutesOut_30 μ) r s → (rj_R g RX3 cX3_minutesOut 3 (some .int) wsX3_minutesOut [] (rj_rm 4 0) F 0 ω μ [(0, .ref (ω.2.2 17)), (1, .int ((rj_we (bX3_minutesOut_30 μ) r s).1)), (2, .int ((rj_we (bX3_minutesOut_30 μ) r s).2))] 57 []) → rj_R g RX3 cX3_minutesOut 3 (some .int) wsX3_minutesOut [] (rj_rm 4 0) F 0 ω μ [(0, .ref (ω.2.2 17)), (1, .int s.1), (2, .int s.2)] 30 [] := by
  intro r
  induction r with
  | zero =>
    intro s hq0 K
    exact hq0.elim
  | succ r ih =>
    intro s30 hq0 K
    rw [rq_we_s] at hq0
    have hqa := hq0.1
    have hqn := hq0.2
    unfold qX3_minutesOut_30 at hqa
    refine rj_iload_n 2 dX3_minutesOut_30 rfl rfl ?_
    refine rj_if_le dX3_minutesOut_31 rfl rfl (fun h3 => ?_) (fun h3 => ?_)
    · skip
      have e : bX3_minutesOut_30 μ s30 = .inr (s30.1, s30.2) := by unfold bX3_minutesOut_30; rw [if_pos h3]; try rfl
      exact rj_sub (l' := [(0, .ref (ω.2.2 17)), (1, .int s30.1), (2, .int s30.2)]) [0, 1, 2] rfl (by rw [rj_we_r e] at K; exact K)
    · skip
      refine rj_aload_n 0 dX3_minutesOut_34 rfl rfl ?_
      refine rj_iload_n 1 dX3_minutesOut_35 rfl rfl ?_
      refine rj_iload_n 2 dX3_minutesOut_36 rfl rfl ?_
      refine rj_iadd dX3_minutesOut_37 rfl ?_
      refine rj_iconst (v := 1) dX3_minutesOut_38 rfl (by decide) ?_
      refine rj_isub dX3_minutesOut_39 rfl ?_
      refine rj_cV (rest := []) (sX3_firstTooFull (g := g) (ω := ω) hω μ ((s30.1 + s30.2) - 1)   ) gX3_minutesOut_X3_firstTooFull (rj_lt hω (k := 17) rfl) (rj_sh hω ly_17) rfl rfl hVX3_firstTooFull ⟨Nat.le_of_ble_eq_true rfl, Nat.le_of_ble_eq_true rfl⟩ dX3_minutesOut_40 rfl rfl rfl (Nat.le_of_ble_eq_true rfl) rfl (Nat.le_of_ble_eq_true rfl) rfl ?_
      refine rj_if_eq dX3_minutesOut_43 rfl rfl (fun h4 => ?_) (fun h4 => ?_)
      · skip
        refine rj_iload_n 2 dX3_minutesOut_50 rfl rfl ?_
        refine rj_iconst (v := 2) dX3_minutesOut_51 rfl (by decide) ?_
        refine rj_idiv dX3_minutesOut_52 rfl (by decide) ?_
        refine rj_istore_n (l' := [(2, .int (s30.2 / 2)), (0, .ref (ω.2.2 17)), (1, .int s30.1)]) dX3_minutesOut_53 rfl (rj_bl rfl) rfl ?_
        refine rj_goto dX3_minutesOut_54 rfl ?_
        have e : bX3_minutesOut_30 μ s30 = .inl (s30.1, (s30.2 / 2)) := by unfold bX3_minutesOut_30; rw [if_neg h3]; rw [if_pos h4]; try rfl
        exact rj_sub (l' := [(0, .ref (ω.2.2 17)), (1, .int s30.1), (2, .int (s30.2 / 2))]) [1, 2, 0] rfl (ih (s30.1, (s30.2 / 2)) (by have hz := hqn; rw [e] at hz; exact hz) (by rw [rj_we_l e] at K; exact K))
      · skip
        refine rj_iload_n 1 dX3_minutesOut_46 rfl rfl ?_
        refine rj_iload_n 2 dX3_minutesOut_47 rfl rfl ?_
        refine rj_iadd dX3_minutesOut_48 rfl ?_
        refine rj_istore_n (l' := [(1, .int (s30.1 + s30.2)), (0, .ref (ω.2.2 17)), (2, .int s30.2)]) dX3_minutesOut_49 rfl (rj_bl rfl) rfl ?_
        refine rj_iload_n 2 dX3_minutesOut_50 rfl rfl ?_
        refine rj_iconst (v := 2) dX3_minutesOut_51 rfl (by decide) ?_
        refine rj_idiv dX3_minutesOut_52 rfl (by decide) ?_
        refine rj_istore_n (l' := [(2, .int (s30.2 / 2)), (1, .int (s30.1 + s30.2)), (0, .ref (ω.2.2 17))]) dX3_minutesOut_53 rfl (rj_bl rfl) rfl ?_
        refine rj_goto dX3_minutesOut_54 rfl ?_
        have e : bX3_minutesOut_30 μ s30 = .inl ((s30.1 + s30.2), (s30.2 / 2)) := by unfold bX3_minutesOut_30; rw [if_neg h3]; rw [if_neg h4]; try rfl
        exact rj_sub (l' := [(0, .ref (ω.2.2 17)), (1, .int (s30.1 + s30.2)), (2, .int (s30.2 / 2))]) [2, 1, 0] rfl (ih ((s30.1 + s30.2), (s30.2 / 2)) (by have hz := hqn; rw [e] at hz; exact hz) (by rw [rj_we_l e] at K; exact K))
set_option maxHeartbeats 4000000 in
theorem lX3_minutesOut_30u {g : rj_G} {ω : rj_W} (hω : rj_ok ω) (μ : rj_M)    (h1 : ¬ ((fX11_sumOf μ 20 4) = 0)) (h2 : ¬ ((fX11_sumOf μ 18 3) = 0)) {F : rj_F} : ∀ (r : Nat) (c0 : Int32) (c1 : Int32), rq_we (qX3_minutesOut_30 μ) (bX3_minutesOut_30 μ) r (c0, c1) → (rj_R g RX3 cX3_minutesOut 3 (some .int) wsX3_minutesOut [] (rj_rm 4 0) F 0 ω μ [(0, .ref (ω.2.2 17)), (1, .int ((rj_we (bX3_minutesOut_30 μ) r (c0, c1)).1)), (2, .int ((rj_we (bX3_minutesOut_30 μ) r (c0, c1)).2))] 57 []) → rj_R g RX3 cX3_minutesOut 3 (some .int) wsX3_minutesOut [] (rj_rm 4 0) F 0 ω μ [(0, .ref (ω.2.2 17)), (1, .int c0), (2, .int c1)] 30 [] := fun r c0 c1 => lX3_minutesOut_30 hω μ    h1 h2 r (c0, c1)
def fX3_minutesOut (μ : rj_M) : Int32 := (if (fX11_sumOf μ 20 4) = 0 then 0 else (if (fX11_sumOf μ 18 3) = 0 then (-1) else (rj_we (bX3_minutesOut_30 μ) 15 (0, 8192)).1))
def qX3_minutesOut (μ : rj_M) : Prop := (if (fX11_sumOf μ 20 4) = 0 then True else (if (fX11_sumOf μ 18 3) = 0 then True else (rq_we (qX3_minutesOut_30 μ) (bX3_minutesOut_30 μ) 15 (0, 8192) ∧ True)))
set_option maxHeartbeats 40000000 in
set_option maxRecDepth 100000 in
theorem sX3_minutesOut {g : rj_G} {ω : rj_W} (hω : rj_ok ω) (μ : rj_M)   (hq : qX3_minutesOut μ) : rj_Sp g yX3_minutesOut wsX3_minutesOut (rj_rm 4 0) [.ref (ω.2.2 17)] ω μ (rj_D (.inl (some (.int (fX3_minutesOut μ)))) ω μ) := by
  have hqa := hq
  unfold qX3_minutesOut at hqa
  refine rj_of' (cc := cX3_minutesOut) (nL := 3) (ret := (some .int)) (own := RX3) (l0 := [(0, .ref (ω.2.2 17))]) rfl (by decide +kernel) rfl (Nat.le_of_ble_eq_true rfl) rfl ?_
  refine rj_aload_n 0 dX3_minutesOut_0 rfl rfl ?_
  refine rj_getR (C0 := RX3) (T := TX3) (N := 3) (j := 2) (r := 20) dX3_minutesOut_1 rfl vX3_minutesOut_3 rfl (rj_lt hω (k := 17) rfl) (rj_sh hω ly_17) (by decide) kX3_minutesOut_18 rfl ?_
  refine rj_cSN (rest := []) (sX11_sumOf (g := g) (ω := ω) μ 20 4 (rj_lt hω (k := 20) rfl) (rj_sh hω ly_20) (rj_bl rfl)  ) ggX3_minutesOut_X11_sumOf jX3_minutesOut_29_i jX3_minutesOut_29_s jX3_minutesOut_29_n rfl hSX11_sumOf ⟨Nat.le_of_ble_eq_true rfl, Nat.le_of_ble_eq_true rfl⟩ dX3_minutesOut_4 rfl rfl rfl (Nat.le_of_ble_eq_true rfl) rfl (Nat.le_of_ble_eq_true rfl) rfl ?_
  refine rj_if_ne dX3_minutesOut_7 rfl rfl (fun h1 => ?_) (fun h1 => ?_)
  · have hq1 := hqa; rw [if_neg h1] at hq1
    refine rj_aload_n 0 dX3_minutesOut_12 rfl rfl ?_
    refine rj_getR (C0 := RX3) (T := TX3) (N := 3) (j := 0) (r := 18) dX3_minutesOut_13 rfl vX3_minutesOut_3 rfl (rj_lt hω (k := 17) rfl) (rj_sh hω ly_17) (by decide) kX3_minutesOut_9 rfl ?_
    refine rj_cSN (rest := []) (sX11_sumOf (g := g) (ω := ω) μ 18 3 (rj_lt hω (k := 18) rfl) (rj_sh hω ly_18) (rj_bl rfl)  ) ggX3_minutesOut_X11_sumOf jX3_minutesOut_29_i jX3_minutesOut_29_s jX3_minutesOut_29_n rfl hSX11_sumOf ⟨Nat.le_of_ble_eq_true rfl, Nat.le_of_ble_eq_true rfl⟩ dX3_minutesOut_16 rfl rfl rfl (Nat.le_of_ble_eq_true rfl) rfl (Nat.le_of_ble_eq_true rfl) rfl ?_
    refine rj_if_ne dX3_minutesOut_19 rfl rfl (fun h2 => ?_) (fun h2 => ?_)
    · have hq2 := hq1; rw [if_neg h2] at hq2
      refine rj_iconst (v := 0) dX3_minutesOut_24 rfl (by decide) ?_
      refine rj_istore_n (l' := [(1, .int 0), (0, .ref (ω.2.2 17))]) dX3_minutesOut_25 rfl (rj_bl rfl) rfl ?_
      refine rj_sipush (v := 8192) dX3_minutesOut_26 rfl (by decide) ?_
      refine rj_istore_n (l' := [(2, .int 8192), (1, .int 0), (0, .ref (ω.2.2 17))]) dX3_minutesOut_29 rfl (rj_bl rfl) rfl ?_
      refine rj_sub (l' := [(0, .ref (ω.2.2 17)), (1, .int 0), (2, .int 8192)]) [2, 1, 0] rfl ?_
      refine lX3_minutesOut_30u hω μ    h1 h2 15 0 8192 (hq2).1 ?_
      refine rj_iload_n 1 dX3_minutesOut_57 rfl rfl ?_
      exact rj_iret dX3_minutesOut_58 rfl (Nat.le_of_ble_eq_true rfl) (Nat.le_of_ble_eq_true rfl) ⟨(by unfold fX3_minutesOut; rw [if_neg h1]; rw [if_neg h2]; try rfl), rfl, rfl⟩
    · have hq7 := hq1; rw [if_pos h2] at hq7
      refine rj_iconst (v := (-1)) dX3_minutesOut_22 rfl (by decide) ?_
      exact rj_iret dX3_minutesOut_23 rfl (Nat.le_of_ble_eq_true rfl) (Nat.le_of_ble_eq_true rfl) ⟨(by unfold fX3_minutesOut; rw [if_neg h1]; rw [if_pos h2]; try rfl), rfl, rfl⟩
  · have hq8 := hqa; rw [if_pos h1] at hq8
    refine rj_iconst (v := 0) dX3_minutesOut_10 rfl (by decide) ?_
    exact rj_iret dX3_minutesOut_11 rfl (Nat.le_of_ble_eq_true rfl) (Nat.le_of_ble_eq_true rfl) ⟨(by unfold fX3_minutesOut; rw [if_pos h1]; try rfl), rfl, rfl⟩
theorem hSX10_helpersAt : yX10_helpersAt.cls ≠ "java/lang/invoke/MethodHandle" ∧ yX10_helpersAt.cls ≠ "java/lang/invoke/VarHandle" ∧ (parseMethodDescriptor yX10_helpersAt.desc).map (fun d => d.parameters.length) = some 1 := by decide +kernel
theorem hVX10_helpersAt : yX10_helpersAt.cls = RX10 ∧ yX10_helpersAt.cls ≠ "java/lang/invoke/MethodHandle" ∧ yX10_helpersAt.cls ≠ "java/lang/invoke/VarHandle" ∧ (parseMethodDescriptor yX10_helpersAt.desc).map (fun d => d.parameters.length) = some 1 := by decide +kernel
theorem vX10_helpersAt_10 : ∀ w ∈ u_ws RX10 TX10 4, w ∈ wsX10_helpersAt := by decide +kernel
theorem kX10_helpersAt_15 : Cond.fieldLink RX10 15 (TX10 1).1 (TX10 1).2.1 (TX10 1).2.2.1 ∈ wsX10_helpersAt := by decide +kernel
theorem jX10_helpersAt_43_0 : Cond.methodLink RX10 43 Lib.Math.max.name ∈ wsX10_helpersAt := by decide +kernel
theorem jX10_helpersAt_43_1 : Cond.static Lib.Math.max.name ∈ wsX10_helpersAt := by decide +kernel
theorem jX10_helpersAt_43_2 : Cond.initialized "java/lang/Math" ∈ wsX10_helpersAt := by decide +kernel
theorem jX10_helpersAt_43_3 : Cond.code Lib.Math.max.name Lib.Math.max.code 2 (some .int) ∈ wsX10_helpersAt := by decide +kernel
theorem kX10_helpersAt_19 : Cond.fieldLink RX10 19 (TX10 2).1 (TX10 2).2.1 (TX10 2).2.2.1 ∈ wsX10_helpersAt := by decide +kernel
def bX10_helpersAt_18 (μ : rj_M) (a0 : Int32) (s18 : Int32 × Int32) : (Int32 × Int32) ⊕ (Int32 × Int32) := (if a0 < s18.2 then .inr (s18.1, s18.2) else (if 24 ≤ s18.2 then .inr (s18.1, s18.2) else .inl ((s18.1 + (μ.1 28 s18.2.toNatClampNeg)), s18.2 + 1)))
def qX10_helpersAt_18 (μ : rj_M) (a0 : Int32) (s18 : Int32 × Int32) : Prop := (if a0 < s18.2 then True else (if 24 ≤ s18.2 then True else (vp_in s18.2 24 ∧ True)))
set_option maxHeartbeats 4000000 in
set_option maxRecDepth 100000 in
theorem lX10_helpersAt_18 {g : rj_G} {ω : rj_W} (hω : rj_ok ω) (μ : rj_M) (a0 : Int32)     {F : rj_F} : ∀ (r : Nat) (s : Int32 × Int32), rq_we (qX10_helpersAt_18 μ a0) (bX10_helpersAt_18 μ a0) r s → (rj_R g RX10 cX10_helpersAt 5 (some .int) wsX10_helpersAt [] (rj_rm 1 0) F 0 ω μ [(0, .ref (ω.2.2 26)), (1, .int a0), (2, .int ((rj_we (bX10_helpersAt_18 μ a0) r s).1)), (3, .int (if 0 < ((a0 - (μ.1 26 1)) + 1) then ((a0 - (μ.1 26 1)) + 1) else 0)), (4, .int ((rj_we (bX10_helpersAt_18 μ a0) r s).2))] 47 []) → rj_R g RX10 cX10_helpersAt 5 (some .int) wsX10_helpersAt [] (rj_rm 1 0) F 0 ω μ [(0, .ref (ω.2.2 26)), (1, .int a0), (2, .int s.1), (3, .int (if 0 < ((a0 - (μ.1 26 1)) + 1) then ((a0 - (μ.1 26 1)) + 1) else 0)), (4, .int s.2)] 18 [] := by
  intro r
  induction r with
  | zero =>
    intro s hq0 K
    exact hq0.elim
  | succ r ih =>
    intro s18 hq0 K
    rw [rq_we_s] at hq0
    have hqa := hq0.1
    have hqn := hq0.2
    unfold qX10_helpersAt_18 at hqa
    refine rj_iload 4 dX10_helpersAt_18 rfl rfl ?_
    refine rj_iload_n 1 dX10_helpersAt_20 rfl rfl ?_
    refine rj_icmp_gt dX10_helpersAt_21 rfl rfl (fun h1 => ?_) (fun h1 => ?_)
    · have hq1 := hqa; rw [if_pos h1] at hq1
      have e : bX10_helpersAt_18 μ a0 s18 = .inr (s18.1, s18.2) := by unfold bX10_helpersAt_18; rw [if_pos h1]; try rfl
      exact rj_sub (l' := [(0, .ref (ω.2.2 26)), (1, .int a0), (2, .int s18.1), (3, .int (if 0 < ((a0 - (μ.1 26 1)) + 1) then ((a0 - (μ.1 26 1)) + 1) else 0)), (4, .int s18.2)]) [0, 1, 2, 3, 4] rfl (by rw [rj_we_r e] at K; exact K)
    · have hq2 := hqa; rw [if_neg h1] at hq2
      refine rj_iload 4 dX10_helpersAt_24 rfl rfl ?_
      refine rj_bipush (v := 24) dX10_helpersAt_26 rfl (by decide) ?_
      refine rj_icmp_ge dX10_helpersAt_28 rfl rfl (fun h2 => ?_) (fun h2 => ?_)
      · have hq3 := hq2; rw [if_pos h2] at hq3
        have e : bX10_helpersAt_18 μ a0 s18 = .inr (s18.1, s18.2) := by unfold bX10_helpersAt_18; rw [if_neg h1]; rw [if_pos h2]; try rfl
        exact rj_sub (l' := [(0, .ref (ω.2.2 26)), (1, .int a0), (2, .int s18.1), (3, .int (if 0 < ((a0 - (μ.1 26 1)) + 1) then ((a0 - (μ.1 26 1)) + 1) else 0)), (4, .int s18.2)]) [0, 1, 2, 3, 4] rfl (by rw [rj_we_r e] at K; exact K)
      · have hq4 := hq2; rw [if_neg h2] at hq4
        refine rj_iload_n 2 dX10_helpersAt_31 rfl rfl ?_
        refine rj_aload_n 0 dX10_helpersAt_32 rfl rfl ?_
        refine rj_getR (C0 := RX10) (T := TX10) (N := 4) (j := 2) (r := 28) dX10_helpersAt_33 rfl vX10_helpersAt_10 rfl (rj_lt hω (k := 26) rfl) (rj_sh hω ly_26) (by decide) kX10_helpersAt_19 rfl ?_
        refine rj_iload 4 dX10_helpersAt_36 rfl rfl ?_
        refine rj_iald dX10_helpersAt_38 rfl (rj_lt hω (k := 28) rfl) (rj_sh hω ly_28) (hq4).1 ?_
        refine rj_iadd dX10_helpersAt_39 rfl ?_
        refine rj_istore_n (l' := [(2, .int (s18.1 + (μ.1 28 s18.2.toNatClampNeg))), (0, .ref (ω.2.2 26)), (1, .int a0), (3, .int (if 0 < ((a0 - (μ.1 26 1)) + 1) then ((a0 - (μ.1 26 1)) + 1) else 0)), (4, .int s18.2)]) dX10_helpersAt_40 rfl (rj_bl rfl) rfl ?_
        refine rj_iinc (v := s18.2 + 1) (l' := [(4, .int (s18.2 + 1)), (2, .int (s18.1 + (μ.1 28 s18.2.toNatClampNeg))), (0, .ref (ω.2.2 26)), (1, .int a0), (3, .int (if 0 < ((a0 - (μ.1 26 1)) + 1) then ((a0 - (μ.1 26 1)) + 1) else 0))]) 4 dX10_helpersAt_41 rfl rfl rfl (rj_bl rfl) rfl ?_
        refine rj_goto dX10_helpersAt_44 rfl ?_
        have e : bX10_helpersAt_18 μ a0 s18 = .inl ((s18.1 + (μ.1 28 s18.2.toNatClampNeg)), s18.2 + 1) := by unfold bX10_helpersAt_18; rw [if_neg h1]; rw [if_neg h2]; try rfl
        exact rj_sub (l' := [(0, .ref (ω.2.2 26)), (1, .int a0), (2, .int (s18.1 + (μ.1 28 s18.2.toNatClampNeg))), (3, .int (if 0 < ((a0 - (μ.1 26 1)) + 1) then ((a0 - (μ.1 26 1)) + 1) else 0)), (4, .int (s18.2 + 1))]) [2, 3, 1, 4, 0] rfl (ih ((s18.1 + (μ.1 28 s18.2.toNatClampNeg)), s18.2 + 1) (by have hz := hqn; rw [e] at hz; exact hz) (by rw [rj_we_l e] at K; exact K))
set_option maxHeartbeats 4000000 in
theorem lX10_helpersAt_18u {g : rj_G} {ω : rj_W} (hω : rj_ok ω) (μ : rj_M) (a0 : Int32)     {F : rj_F} : ∀ (r : Nat) (c0 : Int32) (c1 : Int32), rq_we (qX10_helpersAt_18 μ a0) (bX10_helpersAt_18 μ a0) r (c0, c1) → (rj_R g RX10 cX10_helpersAt 5 (some .int) wsX10_helpersAt [] (rj_rm 1 0) F 0 ω μ [(0, .ref (ω.2.2 26)), (1, .int a0), (2, .int ((rj_we (bX10_helpersAt_18 μ a0) r (c0, c1)).1)), (3, .int (if 0 < ((a0 - (μ.1 26 1)) + 1) then ((a0 - (μ.1 26 1)) + 1) else 0)), (4, .int ((rj_we (bX10_helpersAt_18 μ a0) r (c0, c1)).2))] 47 []) → rj_R g RX10 cX10_helpersAt 5 (some .int) wsX10_helpersAt [] (rj_rm 1 0) F 0 ω μ [(0, .ref (ω.2.2 26)), (1, .int a0), (2, .int c0), (3, .int (if 0 < ((a0 - (μ.1 26 1)) + 1) then ((a0 - (μ.1 26 1)) + 1) else 0)), (4, .int c1)] 18 [] := fun r c0 c1 => lX10_helpersAt_18 hω μ a0     r (c0, c1)
def fX10_helpersAt (μ : rj_M) (a0 : Int32) : Int32 := (rj_we (bX10_helpersAt_18 μ a0) 25 (0, (if 0 < ((a0 - (μ.1 26 1)) + 1) then ((a0 - (μ.1 26 1)) + 1) else 0))).1
def qX10_helpersAt (μ : rj_M) (a0 : Int32) : Prop := (rq_we (qX10_helpersAt_18 μ a0) (bX10_helpersAt_18 μ a0) 25 (0, (if 0 < ((a0 - (μ.1 26 1)) + 1) then ((a0 - (μ.1 26 1)) + 1) else 0)) ∧ True)
set_option maxHeartbeats 40000000 in
set_option maxRecDepth 100000 in
theorem sX10_helpersAt {g : rj_G} {ω : rj_W} (hω : rj_ok ω) (μ : rj_M) (a0 : Int32)   (hq : qX10_helpersAt μ a0) : rj_Sp g yX10_helpersAt wsX10_helpersAt (rj_rm 1 0) [.ref (ω.2.2 26), .int a0] ω μ (rj_D (.inl (some (.int (fX10_helpersAt μ a0)))) ω μ) := by
  have hqa := hq
  unfold qX10_helpersAt at hqa
  refine rj_of' (cc := cX10_helpersAt) (nL := 5) (ret := (some .int)) (own := RX10) (l0 := [(0, .ref (ω.2.2 26)), (1, .int a0)]) rfl (by decide +kernel) rfl (Nat.le_of_ble_eq_true rfl) rfl ?_
  refine rj_iconst (v := 0) dX10_helpersAt_0 rfl (by decide) ?_
  refine rj_istore_n (l' := [(2, .int 0), (0, .ref (ω.2.2 26)), (1, .int a0)]) dX10_helpersAt_1 rfl (rj_bl rfl) rfl ?_
  refine rj_iconst (v := 0) dX10_helpersAt_2 rfl (by decide) ?_
  refine rj_iload_n 2 dX10_helpersAt_3 rfl rfl ?_
  refine rj_aload_n 1 dX10_helpersAt_4 rfl rfl ?_
  refine rj_getI (C0 := RX10) (T := TX10) (N := 4) (j := 1) dX10_helpersAt_5 rfl vX10_helpersAt_10 rfl (rj_lt hω (k := 26) rfl) (rj_sh hω ly_26) (by decide) kX10_helpersAt_15 rfl ?_
  refine rj_isub dX10_helpersAt_8 rfl ?_
  refine rj_iconst (v := 1) dX10_helpersAt_9 rfl (by decide) ?_
  refine rj_iadd dX10_helpersAt_10 rfl ?_
  refine rj_mmax dX10_helpersAt_11 rfl jX10_helpersAt_43_0 jX10_helpersAt_43_1 jX10_helpersAt_43_2 jX10_helpersAt_43_3 (Nat.le_of_ble_eq_true rfl) (Nat.le_of_ble_eq_true rfl) (Nat.le_of_ble_eq_true rfl) (Nat.le_of_ble_eq_true rfl) ?_
  refine rj_istore_n (l' := [(3, .int (if 0 < ((a0 - (μ.1 26 1)) + 1) then ((a0 - (μ.1 26 1)) + 1) else 0)), (2, .int 0), (0, .ref (ω.2.2 26)), (1, .int a0)]) dX10_helpersAt_14 rfl (rj_bl rfl) rfl ?_
  refine rj_iload_n 0 dX10_helpersAt_15 rfl rfl ?_
  refine rj_istore (l' := [(4, .int (if 0 < ((a0 - (μ.1 26 1)) + 1) then ((a0 - (μ.1 26 1)) + 1) else 0)), (3, .int (if 0 < ((a0 - (μ.1 26 1)) + 1) then ((a0 - (μ.1 26 1)) + 1) else 0)), (2, .int 0), (0, .ref (ω.2.2 26)), (1, .int a0)]) dX10_helpersAt_16 rfl (rj_bl rfl) rfl ?_
  refine rj_sub (l' := [(0, .ref (ω.2.2 26)), (1, .int a0), (2, .int 0), (3, .int (if 0 < ((a0 - (μ.1 26 1)) + 1) then ((a0 - (μ.1 26 1)) + 1) else 0)), (4, .int (if 0 < ((a0 - (μ.1 26 1)) + 1) then ((a0 - (μ.1 26 1)) + 1) else 0))]) [3, 4, 2, 1, 0] rfl ?_
  refine lX10_helpersAt_18u hω μ a0     25 0 (if 0 < ((a0 - (μ.1 26 1)) + 1) then ((a0 - (μ.1 26 1)) + 1) else 0) (hqa).1 ?_
  refine rj_iload_n 2 dX10_helpersAt_47 rfl rfl ?_
  exact rj_iret dX10_helpersAt_48 rfl (Nat.le_of_ble_eq_true rfl) (Nat.le_of_ble_eq_true rfl) ⟨(by unfold fX10_helpersAt; rfl), rfl, rfl⟩
theorem hSX10_planStarts : yX10_planStarts.cls ≠ "java/lang/invoke/MethodHandle" ∧ yX10_planStarts.cls ≠ "java/lang/invoke/VarHandle" ∧ (parseMethodDescriptor yX10_planStarts.desc).map (fun d => d.parameters.length) = some 0 := by decide +kernel
theorem hVX10_planStarts : yX10_planStarts.cls = RX10 ∧ yX10_planStarts.cls ≠ "java/lang/invoke/MethodHandle" ∧ yX10_planStarts.cls ≠ "java/lang/invoke/VarHandle" ∧ (parseMethodDescriptor yX10_planStarts.desc).map (fun d => d.parameters.length) = some 0 := by decide +kernel
theorem vX10_planStarts_10 : ∀ w ∈ u_ws RX10 TX10 4, w ∈ wsX10_planStarts := by decide +kernel
theorem kX10_planStarts_19 : Cond.fieldLink RX10 19 (TX10 2).1 (TX10 2).2.1 (TX10 2).2.2.1 ∈ wsX10_planStarts := by decide +kernel
theorem jX10_planStarts_29_i : Cond.initialized yX11_fillRow.cls ∈ wsX10_planStarts := by decide +kernel
theorem jX10_planStarts_29_s : Cond.static yX11_fillRow ∈ wsX10_planStarts := by decide +kernel
theorem jX10_planStarts_29_n : (RX10, 29, yX11_fillRow, "Festivalgrounds") ∈ rj_nw := by decide +kernel
theorem kX10_planStarts_9 : Cond.fieldLink RX10 9 (TX10 0).1 (TX10 0).2.1 (TX10 0).2.2.1 ∈ wsX10_planStarts := by decide +kernel
theorem kX10_planStarts_15 : Cond.fieldLink RX10 15 (TX10 1).1 (TX10 1).2.1 (TX10 1).2.2.1 ∈ wsX10_planStarts := by decide +kernel
theorem jX10_planStarts_37_0 : Cond.methodLink RX10 37 Lib.Math.min.name ∈ wsX10_planStarts := by decide +kernel
theorem jX10_planStarts_37_1 : Cond.static Lib.Math.min.name ∈ wsX10_planStarts := by decide +kernel
theorem jX10_planStarts_37_2 : Cond.initialized "java/lang/Math" ∈ wsX10_planStarts := by decide +kernel
theorem jX10_planStarts_37_3 : Cond.code Lib.Math.min.name Lib.Math.min.code 2 (some .int) ∈ wsX10_planStarts := by decide +kernel
def bX10_planStarts_10 (μ : rj_M) (j10 : Nat) (s10 : rj_M) : rj_M := (if ((s10.1 27 (nI j10).toNatClampNeg) - (fX10_helpersAt s10 (nI j10))) ≤ 0 then s10 else (if (if (24 - (s10.1 26 1)) < nI j10 then (24 - (s10.1 26 1)) else nI j10) < 0 then s10 else (rj_pi s10 28 (if (24 - (s10.1 26 1)) < nI j10 then (24 - (s10.1 26 1)) else nI j10).toNatClampNeg ((s10.1 28 (if (24 - (s10.1 26 1)) < nI j10 then (24 - (s10.1 26 1)) else nI j10).toNatClampNeg) + ((s10.1 27 (nI j10).toNatClampNeg) - (fX10_helpersAt s10 (nI j10)))))))
def qX10_planStarts_10 (μ : rj_M) (j10 : Nat) (s10 : rj_M) : Prop := (qX10_helpersAt s10 (nI j10) ∧ (if ((s10.1 27 (nI j10).toNatClampNeg) - (fX10_helpersAt s10 (nI j10))) ≤ 0 then True else (if (if (24 - (s10.1 26 1)) < nI j10 then (24 - (s10.1 26 1)) else nI j10) < 0 then True else (vp_in (if (24 - (s10.1 26 1)) < nI j10 then (24 - (s10.1 26 1)) else nI j10) 24 ∧ vp_in (if (24 - (s10.1 26 1)) < nI j10 then (24 - (s10.1 26 1)) else nI j10) 24 ∧ True))))
set_option maxHeartbeats 4000000 in
set_option maxRecDepth 100000 in
theorem lX10_planStarts_10 {g : rj_G} {ω : rj_W} (hω : rj_ok ω) (μ : rj_M)      {F : rj_F} : ∀ (r j : Nat) (s : rj_M), j + r = 24 → rq_fo (qX10_planStarts_10 μ) (bX10_planStarts_10 μ) r j s → (rj_R g RX10 cX10_planStarts 4 none wsX10_planStarts [] (rj_rm 2 0) F 0 ω (rj_fo (bX10_planStarts_10 μ) r j s) [(0, .ref (ω.2.2 26)), (1, .int (nI 24))] 65 []) → rj_R g RX10 cX10_planStarts 4 none wsX10_planStarts [] (rj_rm 2 0) F 0 ω s [(0, .ref (ω.2.2 26)), (1, .int (nI j))] 10 [] := by
  intro r
  induction r with
  | zero =>
    intro j s hj hq0 K
    have e0 : j = 24 := by omega
    have hge : 24 ≤ nI j := by
      rw [e0]
      exact Int32.le_refl _
    refine rj_iload_n 1 dX10_planStarts_10 rfl rfl ?_
    refine rj_bipush (v := 24) dX10_planStarts_11 rfl (by decide) ?_
    refine rj_icmp_ge dX10_planStarts_13 rfl rfl (fun h4 => ?_) (fun h4 => ?_)
    · have e1 : nI j = nI 24 := by rw [e0]
      rw [e1]
      exact K
    · exact absurd hge h4
  | succ r ih =>
    intro j10 s10 hj hq0 K
    have hl10 : j10 < 24 := by omega
    have hg10 : ¬ 24 ≤ nI j10 := nI_ge hl10 (rj_bl rfl)
    rw [rq_fo_s] at hq0
    have hqa := hq0.1
    have hqn := hq0.2
    unfold qX10_planStarts_10 at hqa
    refine rj_iload_n 1 dX10_planStarts_10 rfl rfl ?_
    refine rj_bipush (v := 24) dX10_planStarts_11 rfl (by decide) ?_
    refine rj_icmp_ge dX10_planStarts_13 rfl rfl (fun h1 => ?_) (fun h1 => ?_)
    · exact absurd h1 hg10
    · refine rj_aload_n 0 dX10_planStarts_16 rfl rfl ?_
      refine rj_getR (C0 := RX10) (T := TX10) (N := 4) (j := 0) (r := 27) dX10_planStarts_17 rfl vX10_planStarts_10 rfl (rj_lt hω (k := 26) rfl) (rj_sh hω ly_26) (by decide) kX10_planStarts_9 rfl ?_
      refine rj_iload_n 1 dX10_planStarts_20 rfl rfl ?_
      refine rj_iald dX10_planStarts_21 rfl (rj_lt hω (k := 27) rfl) (rj_sh hω ly_27) (vp_in_nI hl10 (rj_bl rfl)) ?_
      refine rj_aload_n 0 dX10_planStarts_22 rfl rfl ?_
      refine rj_iload_n 1 dX10_planStarts_23 rfl rfl ?_
      refine rj_cV (rest := [.int (s10.1 27 (nI j10).toNatClampNeg)]) (sX10_helpersAt (g := g) (ω := ω) hω s10 (nI j10)   (hqa).1) gX10_planStarts_X10_helpersAt (rj_lt hω (k := 26) rfl) (rj_sh hω ly_26) rfl rfl hVX10_helpersAt ⟨Nat.le_of_ble_eq_true rfl, Nat.le_of_ble_eq_true rfl⟩ dX10_planStarts_24 rfl rfl rfl (Nat.le_of_ble_eq_true rfl) rfl (Nat.le_of_ble_eq_true rfl) rfl ?_
      refine rj_isub dX10_planStarts_27 rfl ?_
      refine rj_istore_n (l' := [(2, .int ((s10.1 27 (nI j10).toNatClampNeg) - (fX10_helpersAt s10 (nI j10)))), (0, .ref (ω.2.2 26)), (1, .int (nI j10))]) dX10_planStarts_28 rfl (rj_bl rfl) rfl ?_
      refine rj_iload_n 2 dX10_planStarts_29 rfl rfl ?_
      refine rj_bipush (v := 24) dX10_planStarts_30 rfl (by decide) ?_
      refine rj_aload_n 1 dX10_planStarts_32 rfl rfl ?_
      refine rj_getI (C0 := RX10) (T := TX10) (N := 4) (j := 1) dX10_planStarts_33 rfl vX10_planStarts_10 rfl (rj_lt hω (k := 26) rfl) (rj_sh hω ly_26) (by decide) kX10_planStarts_15 rfl ?_
      refine rj_isub dX10_planStarts_36 rfl ?_
      refine rj_mmin dX10_planStarts_37 rfl jX10_planStarts_37_0 jX10_planStarts_37_1 jX10_planStarts_37_2 jX10_planStarts_37_3 (Nat.le_of_ble_eq_true rfl) (Nat.le_of_ble_eq_true rfl) (Nat.le_of_ble_eq_true rfl) (Nat.le_of_ble_eq_true rfl) ?_
      refine rj_istore_n (l' := [(3, .int (if (24 - (s10.1 26 1)) < nI j10 then (24 - (s10.1 26 1)) else nI j10)), (2, .int ((s10.1 27 (nI j10).toNatClampNeg) - (fX10_helpersAt s10 (nI j10)))), (0, .ref (ω.2.2 26)), (1, .int (nI j10))]) dX10_planStarts_40 rfl (rj_bl rfl) rfl ?_
      refine rj_iload_n 1 dX10_planStarts_41 rfl rfl ?_
      refine rj_if_le dX10_planStarts_42 rfl rfl (fun h2 => ?_) (fun h2 => ?_)
      · have hq1 := (hqa).2; rw [if_pos h2] at hq1
        refine rj_iinc (v := nI (j10 + 1)) (l' := [(1, .int (nI (j10 + 1))), (3, .int (if (24 - (s10.1 26 1)) < nI j10 then (24 - (s10.1 26 1)) else nI j10)), (2, .int ((s10.1 27 (nI j10).toNatClampNeg) - (fX10_helpersAt s10 (nI j10)))), (0, .ref (ω.2.2 26))]) 3 dX10_planStarts_59 rfl rfl (nI_succ j10).symm (rj_bl rfl) rfl ?_
        refine rj_goto dX10_planStarts_62 rfl ?_
        have e : bX10_planStarts_10 μ j10 s10 = s10 := by unfold bX10_planStarts_10; rw [if_pos h2]; try rfl
        exact rj_sub (l' := [(0, .ref (ω.2.2 26)), (1, .int (nI (j10 + 1)))]) [3, 0] rfl (ih (j10 + 1) s10 (by omega) (by have hz := hqn; rw [e] at hz; exact hz) (by rw [rj_fo_s, e] at K; exact K))
      · have hq2 := (hqa).2; rw [if_neg h2] at hq2
        refine rj_iload_n 0 dX10_planStarts_45 rfl rfl ?_
        refine rj_if_lt dX10_planStarts_46 rfl rfl (fun h3 => ?_) (fun h3 => ?_)
        · have hq3 := hq2; rw [if_pos h3] at hq3
          refine rj_iinc (v := nI (j10 + 1)) (l' := [(1, .int (nI (j10 + 1))), (3, .int (if (24 - (s10.1 26 1)) < nI j10 then (24 - (s10.1 26 1)) else nI j10)), (2, .int ((s10.1 27 (nI j10).toNatClampNeg) - (fX10_helpersAt s10 (nI j10)))), (0, .ref (ω.2.2 26))]) 3 dX10_planStarts_59 rfl rfl (nI_succ j10).symm (rj_bl rfl) rfl ?_
          refine rj_goto dX10_planStarts_62 rfl ?_
          have e : bX10_planStarts_10 μ j10 s10 = s10 := by unfold bX10_planStarts_10; rw [if_neg h2]; rw [if_pos h3]; try rfl
          exact rj_sub (l' := [(0, .ref (ω.2.2 26)), (1, .int (nI (j10 + 1)))]) [3, 0] rfl (ih (j10 + 1) s10 (by omega) (by have hz := hqn; rw [e] at hz; exact hz) (by rw [rj_fo_s, e] at K; exact K))
        · have hq4 := hq2; rw [if_neg h3] at hq4
          refine rj_aload_n 2 dX10_planStarts_49 rfl rfl ?_
          refine rj_getR (C0 := RX10) (T := TX10) (N := 4) (j := 2) (r := 28) dX10_planStarts_50 rfl vX10_planStarts_10 rfl (rj_lt hω (k := 26) rfl) (rj_sh hω ly_26) (by decide) kX10_planStarts_19 rfl ?_
          refine rj_iload_n 0 dX10_planStarts_53 rfl rfl ?_
          refine rj_dup2 dX10_planStarts_54 rfl rfl rfl ?_
          refine rj_iald dX10_planStarts_55 rfl (rj_lt hω (k := 28) rfl) (rj_sh hω ly_28) (hq4).1 ?_
          refine rj_iload_n 1 dX10_planStarts_56 rfl rfl ?_
          refine rj_iadd dX10_planStarts_57 rfl ?_
          refine rj_iast dX10_planStarts_58 rfl (rj_lt hω (k := 28) rfl) (rj_sh hω ly_28) ((hq4).2).1 ?_
          refine rj_iinc (v := nI (j10 + 1)) (l' := [(1, .int (nI (j10 + 1))), (3, .int (if (24 - (s10.1 26 1)) < nI j10 then (24 - (s10.1 26 1)) else nI j10)), (2, .int ((s10.1 27 (nI j10).toNatClampNeg) - (fX10_helpersAt s10 (nI j10)))), (0, .ref (ω.2.2 26))]) 3 dX10_planStarts_59 rfl rfl (nI_succ j10).symm (rj_bl rfl) rfl ?_
          refine rj_goto dX10_planStarts_62 rfl ?_
          have e : bX10_planStarts_10 μ j10 s10 = (rj_pi s10 28 (if (24 - (s10.1 26 1)) < nI j10 then (24 - (s10.1 26 1)) else nI j10).toNatClampNeg ((s10.1 28 (if (24 - (s10.1 26 1)) < nI j10 then (24 - (s10.1 26 1)) else nI j10).toNatClampNeg) + ((s10.1 27 (nI j10).toNatClampNeg) - (fX10_helpersAt s10 (nI j10))))) := by unfold bX10_planStarts_10; rw [if_neg h2]; rw [if_neg h3]; try rfl
          exact rj_sub (l' := [(0, .ref (ω.2.2 26)), (1, .int (nI (j10 + 1)))]) [3, 0] rfl (ih (j10 + 1) (rj_pi s10 28 (if (24 - (s10.1 26 1)) < nI j10 then (24 - (s10.1 26 1)) else nI j10).toNatClampNeg ((s10.1 28 (if (24 - (s10.1 26 1)) < nI j10 then (24 - (s10.1 26 1)) else nI j10).toNatClampNeg) + ((s10.1 27 (nI j10).toNatClampNeg) - (fX10_helpersAt s10 (nI j10))))) (by omega) (by have hz := hqn; rw [e] at hz; exact hz) (by rw [rj_fo_s, e] at K; exact K))
def mX10_planStarts (μ : rj_M) : rj_M := (rj_fo (bX10_planStarts_10 μ) 24 0 (mX11_fillRow μ 28 24 0))
def qX10_planStarts (μ : rj_M) : Prop := (rq_fo (qX10_planStarts_10 μ) (bX10_planStarts_10 μ) 24 0 (mX11_fillRow μ 28 24 0) ∧ True)
set_option maxHeartbeats 40000000 in
set_option maxRecDepth 100000 in
theorem sX10_planStarts {g : rj_G} {ω : rj_W} (hω : rj_ok ω) (μ : rj_M)   (hq : qX10_planStarts μ) : rj_Sp g yX10_planStarts wsX10_planStarts (rj_rm 2 0) [.ref (ω.2.2 26)] ω μ (rj_D (.inl none) ω (mX10_planStarts μ)) := by
  have hqa := hq
  unfold qX10_planStarts at hqa
  refine rj_of' (cc := cX10_planStarts) (nL := 4) (ret := none) (own := RX10) (l0 := [(0, .ref (ω.2.2 26))]) rfl (by decide +kernel) rfl (Nat.le_of_ble_eq_true rfl) rfl ?_
  refine rj_aload_n 0 dX10_planStarts_0 rfl rfl ?_
  refine rj_getR (C0 := RX10) (T := TX10) (N := 4) (j := 2) (r := 28) dX10_planStarts_1 rfl vX10_planStarts_10 rfl (rj_lt hω (k := 26) rfl) (rj_sh hω ly_26) (by decide) kX10_planStarts_19 rfl ?_
  refine rj_iconst (v := 0) dX10_planStarts_4 rfl (by decide) ?_
  refine rj_cSN (rest := []) (sX11_fillRow (g := g) (ω := ω) μ 28 24 0 (rj_lt hω (k := 28) rfl) (rj_sh hω ly_28) (rj_bl rfl)  ) ggX10_planStarts_X11_fillRow jX10_planStarts_29_i jX10_planStarts_29_s jX10_planStarts_29_n rfl hSX11_fillRow ⟨Nat.le_of_ble_eq_true rfl, Nat.le_of_ble_eq_true rfl⟩ dX10_planStarts_5 rfl rfl rfl (Nat.le_of_ble_eq_true rfl) rfl (Nat.le_of_ble_eq_true rfl) rfl ?_
  refine rj_iconst (v := 0) dX10_planStarts_8 rfl (by decide) ?_
  refine rj_istore_n (l' := [(1, .int 0), (0, .ref (ω.2.2 26))]) dX10_planStarts_9 rfl (rj_bl rfl) rfl ?_
  refine rj_sub (l' := [(0, .ref (ω.2.2 26)), (1, .int (nI 0))]) [1, 0] rfl ?_
  refine lX10_planStarts_10 hω μ      24 0 (mX11_fillRow μ 28 24 0) rfl (hqa).1 ?_
  exact rj_vret dX10_planStarts_65 rfl (Nat.le_of_ble_eq_true rfl) (Nat.le_of_ble_eq_true rfl) ⟨rfl, rfl, (by unfold mX10_planStarts; rfl)⟩
theorem hSX11_outBy : yX11_outBy.cls ≠ "java/lang/invoke/MethodHandle" ∧ yX11_outBy.cls ≠ "java/lang/invoke/VarHandle" ∧ (parseMethodDescriptor yX11_outBy.desc).map (fun d => d.parameters.length) = some 0 := by decide +kernel
theorem hVX11_outBy : yX11_outBy.cls = RX11 ∧ yX11_outBy.cls ≠ "java/lang/invoke/MethodHandle" ∧ yX11_outBy.cls ≠ "java/lang/invoke/VarHandle" ∧ (parseMethodDescriptor yX11_outBy.desc).map (fun d => d.parameters.length) = some 0 := by decide +kernel
theorem vX11_outBy_11 : ∀ w ∈ u_ws RX11 TX11 6, w ∈ wsX11_outBy := by decide +kernel
theorem kX11_outBy_12 : Cond.fieldLink RX11 12 (TX11 0).1 (TX11 0).2.1 (TX11 0).2.2.1 ∈ wsX11_outBy := by decide +kernel
theorem vX11_outBy_5 : ∀ w ∈ u_ws RX5 TX5 8, w ∈ wsX11_outBy := by decide +kernel
theorem kX11_outBy_135 : Cond.fieldLink RX11 135 (TX5 3).1 (TX5 3).2.1 (TX5 3).2.2.1 ∈ wsX11_outBy := by decide +kernel
def fX11_outBy (μ : rj_M) : Int32 := (fX3_minutesOut μ)
def qX11_outBy (μ : rj_M) : Prop := (qX3_minutesOut μ ∧ True)
set_option maxHeartbeats 40000000 in
set_option maxRecDepth 100000 in
theorem sX11_outBy {g : rj_G} {ω : rj_W} (hω : rj_ok ω) (μ : rj_M)   (hq : qX11_outBy μ) : rj_Sp g yX11_outBy wsX11_outBy (rj_rm 5 0) [.ref (ω.2.2 0)] ω μ (rj_D (.inl (some (.int (fX11_outBy μ)))) ω μ) := by
  have hqa := hq
  unfold qX11_outBy at hqa
  refine rj_of' (cc := cX11_outBy) (nL := 1) (ret := (some .int)) (own := RX11) (l0 := [(0, .ref (ω.2.2 0))]) rfl (by decide +kernel) rfl (Nat.le_of_ble_eq_true rfl) rfl ?_
  refine rj_aload_n 0 dX11_outBy_0 rfl rfl ?_
  refine rj_getR (C0 := RX11) (T := TX11) (N := 6) (j := 0) (r := 1) dX11_outBy_1 rfl vX11_outBy_11 rfl (rj_lt hω (k := 0) rfl) (rj_sh hω ly_0) (by decide) kX11_outBy_12 rfl ?_
  refine rj_getR (C0 := RX5) (T := TX5) (N := 8) (j := 3) (r := 17) dX11_outBy_4 rfl vX11_outBy_5 rfl (rj_lt hω (k := 1) rfl) (rj_sh hω ly_1) (by decide) kX11_outBy_135 rfl ?_
  refine rj_cV (rest := []) (sX3_minutesOut (g := g) (ω := ω) hω μ   (hqa).1) gX11_outBy_X3_minutesOut (rj_lt hω (k := 17) rfl) (rj_sh hω ly_17) rfl rfl hVX3_minutesOut ⟨Nat.le_of_ble_eq_true rfl, Nat.le_of_ble_eq_true rfl⟩ dX11_outBy_7 rfl rfl rfl (Nat.le_of_ble_eq_true rfl) rfl (Nat.le_of_ble_eq_true rfl) rfl ?_
  exact rj_iret dX11_outBy_10 rfl (Nat.le_of_ble_eq_true rfl) (Nat.le_of_ble_eq_true rfl) ⟨(by unfold fX11_outBy; rfl), rfl, rfl⟩
theorem hSX11_cut : yX11_cut.cls ≠ "java/lang/invoke/MethodHandle" ∧ yX11_cut.cls ≠ "java/lang/invoke/VarHandle" ∧ (parseMethodDescriptor yX11_cut.desc).map (fun d => d.parameters.length) = some 0 := by decide +kernel
theorem hVX11_cut : yX11_cut.cls = RX11 ∧ yX11_cut.cls ≠ "java/lang/invoke/MethodHandle" ∧ yX11_cut.cls ≠ "java/lang/invoke/VarHandle" ∧ (parseMethodDescriptor yX11_cut.desc).map (fun d => d.parameters.length) = some 0 := by decide +kernel
theorem vX11_cut_11 : ∀ w ∈ u_ws RX11 TX11 6, w ∈ wsX11_cut := by decide +kernel
theorem kX11_cut_12 : Cond.fieldLink RX11 12 (TX11 0).1 (TX11 0).2.1 (TX11 0).2.2.1 ∈ wsX11_cut := by decide +kernel
theorem vX11_cut_5 : ∀ w ∈ u_ws RX5 TX5 8, w ∈ wsX11_cut := by decide +kernel
theorem kX11_cut_135 : Cond.fieldLink RX11 135 (TX5 3).1 (TX5 3).2.1 (TX5 3).2.2.1 ∈ wsX11_cut := by decide +kernel
def fX11_cut (μ : rj_M) : Int32 := (if 0 < (fX3_minutesOut μ) then (fX3_firstTooFull μ ((fX3_minutesOut μ) - 1)) else 0)
def qX11_cut (μ : rj_M) : Prop := (qX3_minutesOut μ ∧ True)
set_option maxHeartbeats 40000000 in
set_option maxRecDepth 100000 in
theorem sX11_cut {g : rj_G} {ω : rj_W} (hω : rj_ok ω) (μ : rj_M)   (hq : qX11_cut μ) : rj_Sp g yX11_cut wsX11_cut (rj_rm 5 0) [.ref (ω.2.2 0)] ω μ (rj_D (.inl (some (.int (fX11_cut μ)))) ω μ) := by
  have hqa := hq
  unfold qX11_cut at hqa
  refine rj_of' (cc := cX11_cut) (nL := 2) (ret := (some .int)) (own := RX11) (l0 := [(0, .ref (ω.2.2 0))]) rfl (by decide +kernel) rfl (Nat.le_of_ble_eq_true rfl) rfl ?_
  refine rj_aload_n 0 dX11_cut_0 rfl rfl ?_
  refine rj_getR (C0 := RX11) (T := TX11) (N := 6) (j := 0) (r := 1) dX11_cut_1 rfl vX11_cut_11 rfl (rj_lt hω (k := 0) rfl) (rj_sh hω ly_0) (by decide) kX11_cut_12 rfl ?_
  refine rj_getR (C0 := RX5) (T := TX5) (N := 8) (j := 3) (r := 17) dX11_cut_4 rfl vX11_cut_5 rfl (rj_lt hω (k := 1) rfl) (rj_sh hω ly_1) (by decide) kX11_cut_135 rfl ?_
  refine rj_cV (rest := []) (sX3_minutesOut (g := g) (ω := ω) hω μ   (hqa).1) gX11_cut_X3_minutesOut (rj_lt hω (k := 17) rfl) (rj_sh hω ly_17) rfl rfl hVX3_minutesOut ⟨Nat.le_of_ble_eq_true rfl, Nat.le_of_ble_eq_true rfl⟩ dX11_cut_7 rfl rfl rfl (Nat.le_of_ble_eq_true rfl) rfl (Nat.le_of_ble_eq_true rfl) rfl ?_
  refine rj_istore_n (l' := [(1, .int (fX3_minutesOut μ)), (0, .ref (ω.2.2 0))]) dX11_cut_10 rfl (rj_bl rfl) rfl ?_
  refine rj_iload_n 0 dX11_cut_11 rfl rfl ?_
  refine rj_if_gt dX11_cut_12 rfl rfl (fun h1 => ?_) (fun h1 => ?_)
  · skip
    refine rj_aload_n 1 dX11_cut_19 rfl rfl ?_
    refine rj_getR (C0 := RX11) (T := TX11) (N := 6) (j := 0) (r := 1) dX11_cut_20 rfl vX11_cut_11 rfl (rj_lt hω (k := 0) rfl) (rj_sh hω ly_0) (by decide) kX11_cut_12 rfl ?_
    refine rj_getR (C0 := RX5) (T := TX5) (N := 8) (j := 3) (r := 17) dX11_cut_23 rfl vX11_cut_5 rfl (rj_lt hω (k := 1) rfl) (rj_sh hω ly_1) (by decide) kX11_cut_135 rfl ?_
    refine rj_iload_n 0 dX11_cut_26 rfl rfl ?_
    refine rj_iconst (v := 1) dX11_cut_27 rfl (by decide) ?_
    refine rj_isub dX11_cut_28 rfl ?_
    refine rj_cV (rest := []) (sX3_firstTooFull (g := g) (ω := ω) hω μ ((fX3_minutesOut μ) - 1)   ) gX11_cut_X3_firstTooFull (rj_lt hω (k := 17) rfl) (rj_sh hω ly_17) rfl rfl hVX3_firstTooFull ⟨Nat.le_of_ble_eq_true rfl, Nat.le_of_ble_eq_true rfl⟩ dX11_cut_29 rfl rfl rfl (Nat.le_of_ble_eq_true rfl) rfl (Nat.le_of_ble_eq_true rfl) rfl ?_
    exact rj_iret dX11_cut_32 rfl (Nat.le_of_ble_eq_true rfl) (Nat.le_of_ble_eq_true rfl) ⟨(by unfold fX11_cut; rw [if_pos h1]; try rfl), rfl, rfl⟩
  · skip
    refine rj_iconst (v := 0) dX11_cut_15 rfl (by decide) ?_
    refine rj_goto dX11_cut_16 rfl ?_
    exact rj_iret dX11_cut_32 rfl (Nat.le_of_ble_eq_true rfl) (Nat.le_of_ble_eq_true rfl) ⟨(by unfold fX11_cut; rw [if_neg h1]; try rfl), rfl, rfl⟩
theorem hSX11_isOutInTime : yX11_isOutInTime.cls ≠ "java/lang/invoke/MethodHandle" ∧ yX11_isOutInTime.cls ≠ "java/lang/invoke/VarHandle" ∧ (parseMethodDescriptor yX11_isOutInTime.desc).map (fun d => d.parameters.length) = some 0 := by decide +kernel
theorem hVX11_isOutInTime : yX11_isOutInTime.cls = RX11 ∧ yX11_isOutInTime.cls ≠ "java/lang/invoke/MethodHandle" ∧ yX11_isOutInTime.cls ≠ "java/lang/invoke/VarHandle" ∧ (parseMethodDescriptor yX11_isOutInTime.desc).map (fun d => d.parameters.length) = some 0 := by decide +kernel
theorem vX11_isOutInTime_11 : ∀ w ∈ u_ws RX11 TX11 6, w ∈ wsX11_isOutInTime := by decide +kernel
theorem kX11_isOutInTime_12 : Cond.fieldLink RX11 12 (TX11 0).1 (TX11 0).2.1 (TX11 0).2.2.1 ∈ wsX11_isOutInTime := by decide +kernel
theorem vX11_isOutInTime_5 : ∀ w ∈ u_ws RX5 TX5 8, w ∈ wsX11_isOutInTime := by decide +kernel
theorem kX11_isOutInTime_135 : Cond.fieldLink RX11 135 (TX5 3).1 (TX5 3).2.1 (TX5 3).2.2.1 ∈ wsX11_isOutInTime := by decide +kernel
def fX11_isOutInTime (μ : rj_M) : Int32 := (if (fX3_minutesOut μ) = (-1) then 1 else (if (fX3_firstTooFull μ (fX3_minutesOut μ)) = 0 then 1 else 0))
def qX11_isOutInTime (μ : rj_M) : Prop := (qX3_minutesOut μ ∧ True)
set_option maxHeartbeats 40000000 in
set_option maxRecDepth 100000 in
theorem sX11_isOutInTime {g : rj_G} {ω : rj_W} (hω : rj_ok ω) (μ : rj_M)   (hq : qX11_isOutInTime μ) : rj_Sp g yX11_isOutInTime wsX11_isOutInTime (rj_rm 5 0) [.ref (ω.2.2 0)] ω μ (rj_D (.inl (some (.int (fX11_isOutInTime μ)))) ω μ) := by
  have hqa := hq
  unfold qX11_isOutInTime at hqa
  refine rj_of' (cc := cX11_isOutInTime) (nL := 2) (ret := (some .boolean)) (own := RX11) (l0 := [(0, .ref (ω.2.2 0))]) rfl (by decide +kernel) rfl (Nat.le_of_ble_eq_true rfl) rfl ?_
  refine rj_aload_n 0 dX11_isOutInTime_0 rfl rfl ?_
  refine rj_getR (C0 := RX11) (T := TX11) (N := 6) (j := 0) (r := 1) dX11_isOutInTime_1 rfl vX11_isOutInTime_11 rfl (rj_lt hω (k := 0) rfl) (rj_sh hω ly_0) (by decide) kX11_isOutInTime_12 rfl ?_
  refine rj_getR (C0 := RX5) (T := TX5) (N := 8) (j := 3) (r := 17) dX11_isOutInTime_4 rfl vX11_isOutInTime_5 rfl (rj_lt hω (k := 1) rfl) (rj_sh hω ly_1) (by decide) kX11_isOutInTime_135 rfl ?_
  refine rj_cV (rest := []) (sX3_minutesOut (g := g) (ω := ω) hω μ   (hqa).1) gX11_isOutInTime_X3_minutesOut (rj_lt hω (k := 17) rfl) (rj_sh hω ly_17) rfl rfl hVX3_minutesOut ⟨Nat.le_of_ble_eq_true rfl, Nat.le_of_ble_eq_true rfl⟩ dX11_isOutInTime_7 rfl rfl rfl (Nat.le_of_ble_eq_true rfl) rfl (Nat.le_of_ble_eq_true rfl) rfl ?_
  refine rj_istore_n (l' := [(1, .int (fX3_minutesOut μ)), (0, .ref (ω.2.2 0))]) dX11_isOutInTime_10 rfl (rj_bl rfl) rfl ?_
  refine rj_iload_n 0 dX11_isOutInTime_11 rfl rfl ?_
  refine rj_iconst (v := (-1)) dX11_isOutInTime_12 rfl (by decide) ?_
  refine rj_icmp_eq dX11_isOutInTime_13 rfl rfl (fun h1 => ?_) (fun h1 => ?_)
  · skip
    refine rj_iconst (v := 1) dX11_isOutInTime_30 rfl (by decide) ?_
    refine rj_goto dX11_isOutInTime_31 rfl ?_
    exact rj_zret dX11_isOutInTime_35 rfl rfl (Nat.le_of_ble_eq_true rfl) (Nat.le_of_ble_eq_true rfl) ⟨(by unfold fX11_isOutInTime; rw [if_pos h1]; try rfl), rfl, rfl⟩
  · skip
    refine rj_aload_n 1 dX11_isOutInTime_16 rfl rfl ?_
    refine rj_getR (C0 := RX11) (T := TX11) (N := 6) (j := 0) (r := 1) dX11_isOutInTime_17 rfl vX11_isOutInTime_11 rfl (rj_lt hω (k := 0) rfl) (rj_sh hω ly_0) (by decide) kX11_isOutInTime_12 rfl ?_
    refine rj_getR (C0 := RX5) (T := TX5) (N := 8) (j := 3) (r := 17) dX11_isOutInTime_20 rfl vX11_isOutInTime_5 rfl (rj_lt hω (k := 1) rfl) (rj_sh hω ly_1) (by decide) kX11_isOutInTime_135 rfl ?_
    refine rj_iload_n 0 dX11_isOutInTime_23 rfl rfl ?_
    refine rj_cV (rest := []) (sX3_firstTooFull (g := g) (ω := ω) hω μ (fX3_minutesOut μ)   ) gX11_isOutInTime_X3_firstTooFull (rj_lt hω (k := 17) rfl) (rj_sh hω ly_17) rfl rfl hVX3_firstTooFull ⟨Nat.le_of_ble_eq_true rfl, Nat.le_of_ble_eq_true rfl⟩ dX11_isOutInTime_24 rfl rfl rfl (Nat.le_of_ble_eq_true rfl) rfl (Nat.le_of_ble_eq_true rfl) rfl ?_
    refine rj_if_ne dX11_isOutInTime_27 rfl rfl (fun h2 => ?_) (fun h2 => ?_)
    · skip
      refine rj_iconst (v := 0) dX11_isOutInTime_34 rfl (by decide) ?_
      exact rj_zret dX11_isOutInTime_35 rfl rfl (Nat.le_of_ble_eq_true rfl) (Nat.le_of_ble_eq_true rfl) ⟨(by unfold fX11_isOutInTime; rw [if_neg h1]; rw [if_neg h2]; try rfl), rfl, rfl⟩
    · skip
      refine rj_iconst (v := 1) dX11_isOutInTime_30 rfl (by decide) ?_
      refine rj_goto dX11_isOutInTime_31 rfl ?_
      exact rj_zret dX11_isOutInTime_35 rfl rfl (Nat.le_of_ble_eq_true rfl) (Nat.le_of_ble_eq_true rfl) ⟨(by unfold fX11_isOutInTime; rw [if_neg h1]; rw [if_pos h2]; try rfl), rfl, rfl⟩
theorem nX11_isOutInTime (μ : rj_M) : narrow .boolean (.int (fX11_isOutInTime μ)) = .int (fX11_isOutInTime μ) := by
  unfold fX11_isOutInTime
  split
  · rfl
  · split
    · rfl
    · rfl
theorem hSX11_helpers : yX11_helpers.cls ≠ "java/lang/invoke/MethodHandle" ∧ yX11_helpers.cls ≠ "java/lang/invoke/VarHandle" ∧ (parseMethodDescriptor yX11_helpers.desc).map (fun d => d.parameters.length) = some 1 := by decide +kernel
theorem hVX11_helpers : yX11_helpers.cls = RX11 ∧ yX11_helpers.cls ≠ "java/lang/invoke/MethodHandle" ∧ yX11_helpers.cls ≠ "java/lang/invoke/VarHandle" ∧ (parseMethodDescriptor yX11_helpers.desc).map (fun d => d.parameters.length) = some 1 := by decide +kernel
theorem vX11_helpers_11 : ∀ w ∈ u_ws RX11 TX11 6, w ∈ wsX11_helpers := by decide +kernel
theorem kX11_helpers_12 : Cond.fieldLink RX11 12 (TX11 0).1 (TX11 0).2.1 (TX11 0).2.2.1 ∈ wsX11_helpers := by decide +kernel
theorem vX11_helpers_5 : ∀ w ∈ u_ws RX5 TX5 8, w ∈ wsX11_helpers := by decide +kernel
theorem kX11_helpers_181 : Cond.fieldLink RX11 181 (TX5 5).1 (TX5 5).2.1 (TX5 5).2.2.1 ∈ wsX11_helpers := by decide +kernel
theorem vX11_helpers_10 : ∀ w ∈ u_ws RX10 TX10 4, w ∈ wsX11_helpers := by decide +kernel
theorem kX11_helpers_359 : Cond.fieldLink RX11 359 (TX10 2).1 (TX10 2).2.1 (TX10 2).2.2.1 ∈ wsX11_helpers := by decide +kernel
def fX11_helpers (μ : rj_M) (a0 : Int32) : Int32 ⊕ String := (if a0 = (-1) then (.inl (fX10_sumOfStarts (mX10_planStarts μ))) else (rj_bx (fX11_needPlace μ a0 24) (.inl ((mX10_planStarts μ).1 28 a0.toNatClampNeg))))
def mX11_helpers (μ : rj_M) (a0 : Int32) : rj_M := (if a0 = (-1) then (mX10_planStarts μ) else (rj_bm (fX11_needPlace μ a0 24) (mX10_planStarts μ) μ))
def qX11_helpers (μ : rj_M) (a0 : Int32) : Prop := (if a0 = (-1) then (qX10_planStarts μ ∧ True) else (rq_bx (fX11_needPlace μ a0 24) (qX10_planStarts μ ∧ True)))
set_option maxHeartbeats 40000000 in
set_option maxRecDepth 100000 in
theorem sX11_helpers {g : rj_G} {ω : rj_W} (hω : rj_ok ω) (μ : rj_M) (a0 : Int32)   (hq : qX11_helpers μ a0) : rj_Sp g yX11_helpers wsX11_helpers (rj_rm 7 1) [.ref (ω.2.2 0), .int a0] ω μ (rj_D (rj_oi (fX11_helpers μ a0)) ω (mX11_helpers μ a0)) := by
  have hqa := hq
  unfold qX11_helpers at hqa
  refine rj_of' (cc := cX11_helpers) (nL := 2) (ret := (some .int)) (own := RX11) (l0 := [(0, .ref (ω.2.2 0)), (1, .int a0)]) rfl (by decide +kernel) rfl (Nat.le_of_ble_eq_true rfl) rfl ?_
  refine rj_iload_n 1 dX11_helpers_0 rfl rfl ?_
  refine rj_iconst (v := (-1)) dX11_helpers_1 rfl (by decide) ?_
  refine rj_icmp_eq dX11_helpers_2 rfl rfl (fun h1 => ?_) (fun h1 => ?_)
  · have hq1 := hqa; rw [if_pos h1] at hq1
    refine rj_aload_n 0 dX11_helpers_11 rfl rfl ?_
    refine rj_getR (C0 := RX11) (T := TX11) (N := 6) (j := 0) (r := 1) dX11_helpers_12 rfl vX11_helpers_11 rfl (rj_lt hω (k := 0) rfl) (rj_sh hω ly_0) (by decide) kX11_helpers_12 rfl ?_
    refine rj_getR (C0 := RX5) (T := TX5) (N := 8) (j := 5) (r := 26) dX11_helpers_15 rfl vX11_helpers_5 rfl (rj_lt hω (k := 1) rfl) (rj_sh hω ly_1) (by decide) kX11_helpers_181 rfl ?_
    refine rj_cV (rest := []) (sX10_planStarts (g := g) (ω := ω) hω μ   (hq1).1) gX11_helpers_X10_planStarts (rj_lt hω (k := 26) rfl) (rj_sh hω ly_26) rfl rfl hVX10_planStarts ⟨Nat.le_of_ble_eq_true rfl, Nat.le_of_ble_eq_true rfl⟩ dX11_helpers_18 rfl rfl rfl (Nat.le_of_ble_eq_true rfl) rfl (Nat.le_of_ble_eq_true rfl) rfl ?_
    refine rj_iload_n 1 dX11_helpers_21 rfl rfl ?_
    refine rj_iconst (v := (-1)) dX11_helpers_22 rfl (by decide) ?_
    refine rj_icmp_ne dX11_helpers_23 rfl rfl (fun h2 => ?_) (fun h2 => ?_)
    · exact absurd h1 h2
    · refine rj_aload_n 0 dX11_helpers_26 rfl rfl ?_
      refine rj_getR (C0 := RX11) (T := TX11) (N := 6) (j := 0) (r := 1) dX11_helpers_27 rfl vX11_helpers_11 rfl (rj_lt hω (k := 0) rfl) (rj_sh hω ly_0) (by decide) kX11_helpers_12 rfl ?_
      refine rj_getR (C0 := RX5) (T := TX5) (N := 8) (j := 5) (r := 26) dX11_helpers_30 rfl vX11_helpers_5 rfl (rj_lt hω (k := 1) rfl) (rj_sh hω ly_1) (by decide) kX11_helpers_181 rfl ?_
      refine rj_cV (rest := []) (sX10_sumOfStarts (g := g) (ω := ω) hω (mX10_planStarts μ)   ) gX11_helpers_X10_sumOfStarts (rj_lt hω (k := 26) rfl) (rj_sh hω ly_26) rfl rfl hVX10_sumOfStarts ⟨Nat.le_of_ble_eq_true rfl, Nat.le_of_ble_eq_true rfl⟩ dX11_helpers_33 rfl rfl rfl (Nat.le_of_ble_eq_true rfl) rfl (Nat.le_of_ble_eq_true rfl) rfl ?_
      refine rj_goto dX11_helpers_36 rfl ?_
      exact rj_iret dX11_helpers_51 rfl (Nat.le_of_ble_eq_true rfl) (Nat.le_of_ble_eq_true rfl) ⟨(by unfold fX11_helpers; rw [if_pos h1]; try rfl), rfl, (by unfold mX11_helpers; rw [if_pos h1]; try rfl)⟩
  · have hq2 := hqa; rw [if_neg h1] at hq2
    refine rj_iload_n 1 dX11_helpers_5 rfl rfl ?_
    refine rj_bipush (v := 24) dX11_helpers_6 rfl (by decide) ?_
    refine rj_cSx (rest := []) (sX11_needPlace (g := g) (ω := ω) hω μ a0 24   ) gX11_helpers_X11_needPlace rfl hSX11_needPlace ⟨Nat.le_of_ble_eq_true rfl, Nat.le_of_ble_eq_true rfl⟩ dX11_helpers_8 rfl rfl rfl (Nat.le_of_ble_eq_true rfl) rfl (Nat.le_of_ble_eq_true rfl) (fun E hE4 => ?_) (fun hx3 => ?_)
    · exact ⟨(by unfold fX11_helpers; try (rw [if_neg h1]); try (rw [hE4]); try (simp only [rj_bx]); try rfl), rfl, (by unfold mX11_helpers; try (rw [if_neg h1]); try (rw [hE4]); try (simp only [rj_bm]); try rfl)⟩
    · have hq3 := hq2; rw [hx3] at hq3; simp only [rq_bx] at hq3
      refine rj_aload_n 0 dX11_helpers_11 rfl rfl ?_
      refine rj_getR (C0 := RX11) (T := TX11) (N := 6) (j := 0) (r := 1) dX11_helpers_12 rfl vX11_helpers_11 rfl (rj_lt hω (k := 0) rfl) (rj_sh hω ly_0) (by decide) kX11_helpers_12 rfl ?_
      refine rj_getR (C0 := RX5) (T := TX5) (N := 8) (j := 5) (r := 26) dX11_helpers_15 rfl vX11_helpers_5 rfl (rj_lt hω (k := 1) rfl) (rj_sh hω ly_1) (by decide) kX11_helpers_181 rfl ?_
      refine rj_cV (rest := []) (sX10_planStarts (g := g) (ω := ω) hω μ   (hq3).1) gX11_helpers_X10_planStarts (rj_lt hω (k := 26) rfl) (rj_sh hω ly_26) rfl rfl hVX10_planStarts ⟨Nat.le_of_ble_eq_true rfl, Nat.le_of_ble_eq_true rfl⟩ dX11_helpers_18 rfl rfl rfl (Nat.le_of_ble_eq_true rfl) rfl (Nat.le_of_ble_eq_true rfl) rfl ?_
      refine rj_iload_n 1 dX11_helpers_21 rfl rfl ?_
      refine rj_iconst (v := (-1)) dX11_helpers_22 rfl (by decide) ?_
      refine rj_icmp_ne dX11_helpers_23 rfl rfl (fun h5 => ?_) (fun h5 => ?_)
      · refine rj_aload_n 0 dX11_helpers_39 rfl rfl ?_
        refine rj_getR (C0 := RX11) (T := TX11) (N := 6) (j := 0) (r := 1) dX11_helpers_40 rfl vX11_helpers_11 rfl (rj_lt hω (k := 0) rfl) (rj_sh hω ly_0) (by decide) kX11_helpers_12 rfl ?_
        refine rj_getR (C0 := RX5) (T := TX5) (N := 8) (j := 5) (r := 26) dX11_helpers_43 rfl vX11_helpers_5 rfl (rj_lt hω (k := 1) rfl) (rj_sh hω ly_1) (by decide) kX11_helpers_181 rfl ?_
        refine rj_getR (C0 := RX10) (T := TX10) (N := 4) (j := 2) (r := 28) dX11_helpers_46 rfl vX11_helpers_10 rfl (rj_lt hω (k := 26) rfl) (rj_sh hω ly_26) (by decide) kX11_helpers_359 rfl ?_
        refine rj_iload_n 1 dX11_helpers_49 rfl rfl ?_
        refine rj_iald dX11_helpers_50 rfl (rj_lt hω (k := 28) rfl) (rj_sh hω ly_28) (rj_placein hx3 rfl) ?_
        exact rj_iret dX11_helpers_51 rfl (Nat.le_of_ble_eq_true rfl) (Nat.le_of_ble_eq_true rfl) ⟨(by unfold fX11_helpers; try (rw [if_neg h1]); try (rw [hx3]); try (simp only [rj_bx]); try rfl), rfl, (by unfold mX11_helpers; try (rw [if_neg h1]); try (rw [hx3]); try (simp only [rj_bm]); try rfl)⟩
      · exact absurd h5 h1
theorem hSX11_isProofRight : yX11_isProofRight.cls ≠ "java/lang/invoke/MethodHandle" ∧ yX11_isProofRight.cls ≠ "java/lang/invoke/VarHandle" ∧ (parseMethodDescriptor yX11_isProofRight.desc).map (fun d => d.parameters.length) = some 0 := by decide +kernel
theorem hVX11_isProofRight : yX11_isProofRight.cls = RX11 ∧ yX11_isProofRight.cls ≠ "java/lang/invoke/MethodHandle" ∧ yX11_isProofRight.cls ≠ "java/lang/invoke/VarHandle" ∧ (parseMethodDescriptor yX11_isProofRight.desc).map (fun d => d.parameters.length) = some 0 := by decide +kernel
theorem vX11_isProofRight_11 : ∀ w ∈ u_ws RX11 TX11 6, w ∈ wsX11_isProofRight := by decide +kernel
theorem kX11_isProofRight_12 : Cond.fieldLink RX11 12 (TX11 0).1 (TX11 0).2.1 (TX11 0).2.2.1 ∈ wsX11_isProofRight := by decide +kernel
theorem vX11_isProofRight_5 : ∀ w ∈ u_ws RX5 TX5 8, w ∈ wsX11_isProofRight := by decide +kernel
theorem kX11_isProofRight_181 : Cond.fieldLink RX11 181 (TX5 5).1 (TX5 5).2.1 (TX5 5).2.2.1 ∈ wsX11_isProofRight := by decide +kernel
def fX11_isProofRight (μ : rj_M) : Int32 := (if (fX10_sumOfStarts (mX10_planStarts μ)) = (fX10_needOf (mX10_neediestHours (mX10_planStarts μ)) (fX10_neediestHours (mX10_planStarts μ))) then 1 else 0)
def mX11_isProofRight (μ : rj_M) : rj_M := (if (fX10_sumOfStarts (mX10_planStarts μ)) = (fX10_needOf (mX10_neediestHours (mX10_planStarts μ)) (fX10_neediestHours (mX10_planStarts μ))) then (mX10_neediestHours (mX10_planStarts μ)) else (mX10_neediestHours (mX10_planStarts μ)))
def qX11_isProofRight (μ : rj_M) : Prop := (qX10_planStarts μ ∧ True)
set_option maxHeartbeats 40000000 in
set_option maxRecDepth 100000 in
theorem sX11_isProofRight {g : rj_G} {ω : rj_W} (hω : rj_ok ω) (μ : rj_M)   (hq : qX11_isProofRight μ) : rj_Sp g yX11_isProofRight wsX11_isProofRight (rj_rm 3 0) [.ref (ω.2.2 0)] ω μ (rj_D (.inl (some (.int (fX11_isProofRight μ)))) ω (mX11_isProofRight μ)) := by
  have hqa := hq
  unfold qX11_isProofRight at hqa
  refine rj_of' (cc := cX11_isProofRight) (nL := 1) (ret := (some .boolean)) (own := RX11) (l0 := [(0, .ref (ω.2.2 0))]) rfl (by decide +kernel) rfl (Nat.le_of_ble_eq_true rfl) rfl ?_
  refine rj_aload_n 0 dX11_isProofRight_0 rfl rfl ?_
  refine rj_getR (C0 := RX11) (T := TX11) (N := 6) (j := 0) (r := 1) dX11_isProofRight_1 rfl vX11_isProofRight_11 rfl (rj_lt hω (k := 0) rfl) (rj_sh hω ly_0) (by decide) kX11_isProofRight_12 rfl ?_
  refine rj_getR (C0 := RX5) (T := TX5) (N := 8) (j := 5) (r := 26) dX11_isProofRight_4 rfl vX11_isProofRight_5 rfl (rj_lt hω (k := 1) rfl) (rj_sh hω ly_1) (by decide) kX11_isProofRight_181 rfl ?_
  refine rj_cV (rest := []) (sX10_planStarts (g := g) (ω := ω) hω μ   (hqa).1) gX11_isProofRight_X10_planStarts (rj_lt hω (k := 26) rfl) (rj_sh hω ly_26) rfl rfl hVX10_planStarts ⟨Nat.le_of_ble_eq_true rfl, Nat.le_of_ble_eq_true rfl⟩ dX11_isProofRight_7 rfl rfl rfl (Nat.le_of_ble_eq_true rfl) rfl (Nat.le_of_ble_eq_true rfl) rfl ?_
  refine rj_aload_n 0 dX11_isProofRight_10 rfl rfl ?_
  refine rj_getR (C0 := RX11) (T := TX11) (N := 6) (j := 0) (r := 1) dX11_isProofRight_11 rfl vX11_isProofRight_11 rfl (rj_lt hω (k := 0) rfl) (rj_sh hω ly_0) (by decide) kX11_isProofRight_12 rfl ?_
  refine rj_getR (C0 := RX5) (T := TX5) (N := 8) (j := 5) (r := 26) dX11_isProofRight_14 rfl vX11_isProofRight_5 rfl (rj_lt hω (k := 1) rfl) (rj_sh hω ly_1) (by decide) kX11_isProofRight_181 rfl ?_
  refine rj_cV (rest := []) (sX10_sumOfStarts (g := g) (ω := ω) hω (mX10_planStarts μ)   ) gX11_isProofRight_X10_sumOfStarts (rj_lt hω (k := 26) rfl) (rj_sh hω ly_26) rfl rfl hVX10_sumOfStarts ⟨Nat.le_of_ble_eq_true rfl, Nat.le_of_ble_eq_true rfl⟩ dX11_isProofRight_17 rfl rfl rfl (Nat.le_of_ble_eq_true rfl) rfl (Nat.le_of_ble_eq_true rfl) rfl ?_
  refine rj_aload_n 0 dX11_isProofRight_20 rfl rfl ?_
  refine rj_getR (C0 := RX11) (T := TX11) (N := 6) (j := 0) (r := 1) dX11_isProofRight_21 rfl vX11_isProofRight_11 rfl (rj_lt hω (k := 0) rfl) (rj_sh hω ly_0) (by decide) kX11_isProofRight_12 rfl ?_
  refine rj_getR (C0 := RX5) (T := TX5) (N := 8) (j := 5) (r := 26) dX11_isProofRight_24 rfl vX11_isProofRight_5 rfl (rj_lt hω (k := 1) rfl) (rj_sh hω ly_1) (by decide) kX11_isProofRight_181 rfl ?_
  refine rj_aload_n 0 dX11_isProofRight_27 rfl rfl ?_
  refine rj_getR (C0 := RX11) (T := TX11) (N := 6) (j := 0) (r := 1) dX11_isProofRight_28 rfl vX11_isProofRight_11 rfl (rj_lt hω (k := 0) rfl) (rj_sh hω ly_0) (by decide) kX11_isProofRight_12 rfl ?_
  refine rj_getR (C0 := RX5) (T := TX5) (N := 8) (j := 5) (r := 26) dX11_isProofRight_31 rfl vX11_isProofRight_5 rfl (rj_lt hω (k := 1) rfl) (rj_sh hω ly_1) (by decide) kX11_isProofRight_181 rfl ?_
  refine rj_cV (rest := [.ref (ω.2.2 26), .int (fX10_sumOfStarts (mX10_planStarts μ))]) (sX10_neediestHours (g := g) (ω := ω) hω (mX10_planStarts μ)   ) gX11_isProofRight_X10_neediestHours (rj_lt hω (k := 26) rfl) (rj_sh hω ly_26) rfl rfl hVX10_neediestHours ⟨Nat.le_of_ble_eq_true rfl, Nat.le_of_ble_eq_true rfl⟩ dX11_isProofRight_34 rfl rfl rfl (Nat.le_of_ble_eq_true rfl) rfl (Nat.le_of_ble_eq_true rfl) rfl ?_
  refine rj_cV (rest := [.int (fX10_sumOfStarts (mX10_planStarts μ))]) (sX10_needOf (g := g) (ω := ω) hω (mX10_neediestHours (mX10_planStarts μ)) (fX10_neediestHours (mX10_planStarts μ))   ) gX11_isProofRight_X10_needOf (rj_lt hω (k := 26) rfl) (rj_sh hω ly_26) rfl rfl hVX10_needOf ⟨Nat.le_of_ble_eq_true rfl, Nat.le_of_ble_eq_true rfl⟩ dX11_isProofRight_37 rfl rfl rfl (Nat.le_of_ble_eq_true rfl) rfl (Nat.le_of_ble_eq_true rfl) rfl ?_
  refine rj_icmp_ne dX11_isProofRight_40 rfl rfl (fun h1 => ?_) (fun h1 => ?_)
  · skip
    refine rj_iconst (v := 0) dX11_isProofRight_47 rfl (by decide) ?_
    exact rj_zret dX11_isProofRight_48 rfl rfl (Nat.le_of_ble_eq_true rfl) (Nat.le_of_ble_eq_true rfl) ⟨(by unfold fX11_isProofRight; rw [if_neg h1]; try rfl), rfl, (by unfold mX11_isProofRight; rw [if_neg h1]; try rfl)⟩
  · skip
    refine rj_iconst (v := 1) dX11_isProofRight_43 rfl (by decide) ?_
    refine rj_goto dX11_isProofRight_44 rfl ?_
    exact rj_zret dX11_isProofRight_48 rfl rfl (Nat.le_of_ble_eq_true rfl) (Nat.le_of_ble_eq_true rfl) ⟨(by unfold fX11_isProofRight; rw [if_pos h1]; try rfl), rfl, (by unfold mX11_isProofRight; rw [if_pos h1]; try rfl)⟩
theorem nX11_isProofRight (μ : rj_M) : narrow .boolean (.int (fX11_isProofRight μ)) = .int (fX11_isProofRight μ) := by
  unfold fX11_isProofRight
  split
  · rfl
  · rfl
theorem hSX11_front : yX11_front.cls ≠ "java/lang/invoke/MethodHandle" ∧ yX11_front.cls ≠ "java/lang/invoke/VarHandle" ∧ (parseMethodDescriptor yX11_front.desc).map (fun d => d.parameters.length) = some 2 := by decide +kernel
theorem hVX11_front : yX11_front.cls = RX11 ∧ yX11_front.cls ≠ "java/lang/invoke/MethodHandle" ∧ yX11_front.cls ≠ "java/lang/invoke/VarHandle" ∧ (parseMethodDescriptor yX11_front.desc).map (fun d => d.parameters.length) = some 2 := by decide +kernel
theorem vX11_front_11 : ∀ w ∈ u_ws RX11 TX11 6, w ∈ wsX11_front := by decide +kernel
theorem kX11_front_12 : Cond.fieldLink RX11 12 (TX11 0).1 (TX11 0).2.1 (TX11 0).2.2.1 ∈ wsX11_front := by decide +kernel
theorem vX11_front_5 : ∀ w ∈ u_ws RX5 TX5 8, w ∈ wsX11_front := by decide +kernel
theorem kX11_front_150 : Cond.fieldLink RX11 150 (TX5 4).1 (TX5 4).2.1 (TX5 4).2.2.1 ∈ wsX11_front := by decide +kernel
theorem vX11_front_0 : ∀ w ∈ u_ws RX0 TX0 7, w ∈ wsX11_front := by decide +kernel
theorem kX11_front_344 : Cond.fieldLink RX11 344 (TX0 3).1 (TX0 3).2.1 (TX0 3).2.2.1 ∈ wsX11_front := by decide +kernel
theorem xkX11_front_267 : Cond.classLink RX11 267 "java/util/NoSuchElementException" ∈ wsX11_front := by decide +kernel
theorem xiX11_front_267 : Cond.initialized "java/util/NoSuchElementException" ∈ wsX11_front := by decide +kernel
theorem xaX11_front_271 : ∀ w ∈ (vx_wdN).filter goodWord, w ∈ wsX11_front := by decide +kernel
theorem xbX11_front_271 : ∀ w ∈ (vx_wdN).filter (fun w => !goodWord w), w ∈ Cond.castable "java/util/NoSuchElementException" "java/util/NoSuchElementException" :: rj_dc.map Cond.declares := by decide +kernel
theorem xgX11_front_271 : ∀ w ∈ Cond.classLink RX11 267 "java/util/NoSuchElementException" :: Cond.initialized "java/util/NoSuchElementException" :: vx_wdN, vx_ot w = true := by decide +kernel
def fX11_front (μ : rj_M) (a0 : Int32) (a1 : Int32) : Int32 ⊕ String := (rj_bx (fX11_needPlace μ a0 3) (if (fX0_firstOf μ a0) = (-1) then (.inr "java/util/NoSuchElementException") else (if a1 = 0 then (.inl (fX0_firstOf μ a0)) else (.inl (μ.1 24 a0.toNatClampNeg)))))
set_option maxHeartbeats 40000000 in
set_option maxRecDepth 100000 in
theorem sX11_front {g : rj_G} {ω : rj_W} (hω : rj_ok ω) (μ : rj_M) (a0 : Int32) (a1 : Int32)   : rj_Sp g yX11_front wsX11_front (rj_rm 7 2) [.ref (ω.2.2 0), .int a0, .int a1] ω μ (rj_D (rj_oi (fX11_front μ a0 a1)) ω μ) := by
  refine rj_of' (cc := cX11_front) (nL := 4) (ret := (some .int)) (own := RX11) (l0 := [(0, .ref (ω.2.2 0)), (1, .int a0), (2, .int a1)]) rfl (by decide +kernel) rfl (Nat.le_of_ble_eq_true rfl) rfl ?_
  refine rj_iload_n 1 dX11_front_0 rfl rfl ?_
  refine rj_iconst (v := 3) dX11_front_1 rfl (by decide) ?_
  refine rj_cSx (rest := []) (sX11_needPlace (g := g) (ω := ω) hω μ a0 3   ) gX11_front_X11_needPlace rfl hSX11_needPlace ⟨Nat.le_of_ble_eq_true rfl, Nat.le_of_ble_eq_true rfl⟩ dX11_front_2 rfl rfl rfl (Nat.le_of_ble_eq_true rfl) rfl (Nat.le_of_ble_eq_true rfl) (fun E hE2 => ?_) (fun hx1 => ?_)
  · exact ⟨(by unfold fX11_front; try (rw [hE2]); try (simp only [rj_bx]); try rfl), rfl, rfl⟩
  · refine rj_aload_n 0 dX11_front_5 rfl rfl ?_
    refine rj_getR (C0 := RX11) (T := TX11) (N := 6) (j := 0) (r := 1) dX11_front_6 rfl vX11_front_11 rfl (rj_lt hω (k := 0) rfl) (rj_sh hω ly_0) (by decide) kX11_front_12 rfl ?_
    refine rj_getR (C0 := RX5) (T := TX5) (N := 8) (j := 4) (r := 21) dX11_front_9 rfl vX11_front_5 rfl (rj_lt hω (k := 1) rfl) (rj_sh hω ly_1) (by decide) kX11_front_150 rfl ?_
    refine rj_iload_n 1 dX11_front_12 rfl rfl ?_
    refine rj_cV (rest := []) (sX0_firstOf (g := g) (ω := ω) hω μ a0   ) gX11_front_X0_firstOf (rj_lt hω (k := 21) rfl) (rj_sh hω ly_21) rfl rfl hVX0_firstOf ⟨Nat.le_of_ble_eq_true rfl, Nat.le_of_ble_eq_true rfl⟩ dX11_front_13 rfl rfl rfl (Nat.le_of_ble_eq_true rfl) rfl (Nat.le_of_ble_eq_true rfl) rfl ?_
    refine rj_istore_n (l' := [(3, .int (fX0_firstOf μ a0)), (0, .ref (ω.2.2 0)), (1, .int a0), (2, .int a1)]) dX11_front_16 rfl (rj_bl rfl) rfl ?_
    refine rj_iload_n 0 dX11_front_17 rfl rfl ?_
    refine rj_iconst (v := (-1)) dX11_front_18 rfl (by decide) ?_
    refine rj_icmp_ne dX11_front_19 rfl rfl (fun h3 => ?_) (fun h3 => ?_)
    · refine rj_iload_n 3 dX11_front_33 rfl rfl ?_
      refine rj_if_eq dX11_front_34 rfl rfl (fun h4 => ?_) (fun h4 => ?_)
      · refine rj_iload_n 0 dX11_front_52 rfl rfl ?_
        exact rj_iret dX11_front_53 rfl (Nat.le_of_ble_eq_true rfl) (Nat.le_of_ble_eq_true rfl) ⟨(by unfold fX11_front; try (rw [hx1]); try (simp only [rj_bx]); try (rw [if_neg h3]); try (rw [if_pos h4]); try rfl), rfl, rfl⟩
      · refine rj_aload_n 1 dX11_front_37 rfl rfl ?_
        refine rj_getR (C0 := RX11) (T := TX11) (N := 6) (j := 0) (r := 1) dX11_front_38 rfl vX11_front_11 rfl (rj_lt hω (k := 0) rfl) (rj_sh hω ly_0) (by decide) kX11_front_12 rfl ?_
        refine rj_getR (C0 := RX5) (T := TX5) (N := 8) (j := 4) (r := 21) dX11_front_41 rfl vX11_front_5 rfl (rj_lt hω (k := 1) rfl) (rj_sh hω ly_1) (by decide) kX11_front_150 rfl ?_
        refine rj_getR (C0 := RX0) (T := TX0) (N := 7) (j := 3) (r := 24) dX11_front_44 rfl vX11_front_0 rfl (rj_lt hω (k := 21) rfl) (rj_sh hω ly_21) (by decide) kX11_front_344 rfl ?_
        refine rj_iload_n 2 dX11_front_47 rfl rfl ?_
        refine rj_iald dX11_front_48 rfl (rj_lt hω (k := 24) rfl) (rj_sh hω ly_24) (rj_placein hx1 rfl) ?_
        refine rj_goto dX11_front_49 rfl ?_
        exact rj_iret dX11_front_53 rfl (Nat.le_of_ble_eq_true rfl) (Nat.le_of_ble_eq_true rfl) ⟨(by unfold fX11_front; try (rw [hx1]); try (simp only [rj_bx]); try (rw [if_neg h3]); try (rw [if_neg h4]); try rfl), rfl, rfl⟩
    · exact rj_throwN (text := "the line is empty") dX11_front_22 rfl dX11_front_25 rfl dX11_front_26 rfl dX11_front_29 rfl dX11_front_32 (by decide +kernel) xkX11_front_267 xiX11_front_267 (by decide +kernel) xaX11_front_271 xbX11_front_271 (by decide) xgX11_front_271 (Nat.le_of_ble_eq_true rfl) (Nat.le_of_ble_eq_true rfl) (Nat.le_of_ble_eq_true rfl) ⟨(by unfold fX11_front; try (rw [hx1]); try (simp only [rj_bx]); try (rw [if_pos h3]); try rfl), rfl, rfl⟩
theorem hSX11_movedTo : yX11_movedTo.cls ≠ "java/lang/invoke/MethodHandle" ∧ yX11_movedTo.cls ≠ "java/lang/invoke/VarHandle" ∧ (parseMethodDescriptor yX11_movedTo.desc).map (fun d => d.parameters.length) = some 1 := by decide +kernel
theorem hVX11_movedTo : yX11_movedTo.cls = RX11 ∧ yX11_movedTo.cls ≠ "java/lang/invoke/MethodHandle" ∧ yX11_movedTo.cls ≠ "java/lang/invoke/VarHandle" ∧ (parseMethodDescriptor yX11_movedTo.desc).map (fun d => d.parameters.length) = some 1 := by decide +kernel
theorem vX11_movedTo_11 : ∀ w ∈ u_ws RX11 TX11 6, w ∈ wsX11_movedTo := by decide +kernel
theorem kX11_movedTo_40 : Cond.fieldLink RX11 40 (TX11 3).1 (TX11 3).2.1 (TX11 3).2.2.1 ∈ wsX11_movedTo := by decide +kernel
theorem vX11_movedTo_9 : ∀ w ∈ u_ws RX9 TX9 8, w ∈ wsX11_movedTo := by decide +kernel
theorem kX11_movedTo_211 : Cond.fieldLink RX11 211 (TX9 2).1 (TX9 2).2.1 (TX9 2).2.2.1 ∈ wsX11_movedTo := by decide +kernel
theorem kX11_movedTo_382 : Cond.fieldLink RX11 382 (TX9 3).1 (TX9 3).2.1 (TX9 3).2.2.1 ∈ wsX11_movedTo := by decide +kernel
def fX11_movedTo (μ : rj_M) (a0 : Int32) : Int32 ⊕ String := (rj_bx (fX11_needAct μ a0) (if (μ.1 47 2) = 0 then (.inl (-1)) else (.inl (μ.1 48 a0.toNatClampNeg))))
set_option maxHeartbeats 40000000 in
set_option maxRecDepth 100000 in
theorem sX11_movedTo {g : rj_G} {ω : rj_W} (hω : rj_ok ω) (μ : rj_M) (a0 : Int32)   : rj_Sp g yX11_movedTo wsX11_movedTo (rj_rm 7 1) [.ref (ω.2.2 0), .int a0] ω μ (rj_D (rj_oi (fX11_movedTo μ a0)) ω μ) := by
  refine rj_of' (cc := cX11_movedTo) (nL := 2) (ret := (some .int)) (own := RX11) (l0 := [(0, .ref (ω.2.2 0)), (1, .int a0)]) rfl (by decide +kernel) rfl (Nat.le_of_ble_eq_true rfl) rfl ?_
  refine rj_aload_n 0 dX11_movedTo_0 rfl rfl ?_
  refine rj_iload_n 1 dX11_movedTo_1 rfl rfl ?_
  refine rj_cVx (rest := []) (sX11_needAct (g := g) (ω := ω) hω μ a0   ) gX11_movedTo_X11_needAct (rj_lt hω (k := 0) rfl) (rj_sh hω ly_0) rfl rfl hVX11_needAct ⟨Nat.le_of_ble_eq_true rfl, Nat.le_of_ble_eq_true rfl⟩ dX11_movedTo_2 rfl rfl rfl (Nat.le_of_ble_eq_true rfl) rfl (Nat.le_of_ble_eq_true rfl) (fun E hE2 => ?_) (fun hx1 => ?_)
  · exact ⟨(by unfold fX11_movedTo; try (rw [hE2]); try (simp only [rj_bx]); try rfl), rfl, rfl⟩
  · refine rj_aload_n 0 dX11_movedTo_5 rfl rfl ?_
    refine rj_getR (C0 := RX11) (T := TX11) (N := 6) (j := 3) (r := 47) dX11_movedTo_6 rfl vX11_movedTo_11 rfl (rj_lt hω (k := 0) rfl) (rj_sh hω ly_0) (by decide) kX11_movedTo_40 rfl ?_
    refine rj_getI (C0 := RX9) (T := TX9) (N := 8) (j := 2) dX11_movedTo_9 rfl vX11_movedTo_9 rfl (rj_lt hω (k := 47) rfl) (rj_sh hω ly_47) (by decide) kX11_movedTo_211 rfl ?_
    refine rj_if_eq dX11_movedTo_12 rfl rfl (fun h3 => ?_) (fun h3 => ?_)
    · refine rj_iconst (v := (-1)) dX11_movedTo_27 rfl (by decide) ?_
      exact rj_iret dX11_movedTo_28 rfl (Nat.le_of_ble_eq_true rfl) (Nat.le_of_ble_eq_true rfl) ⟨(by unfold fX11_movedTo; try (rw [hx1]); try (simp only [rj_bx]); try (rw [if_pos h3]); try rfl), rfl, rfl⟩
    · refine rj_aload_n 0 dX11_movedTo_15 rfl rfl ?_
      refine rj_getR (C0 := RX11) (T := TX11) (N := 6) (j := 3) (r := 47) dX11_movedTo_16 rfl vX11_movedTo_11 rfl (rj_lt hω (k := 0) rfl) (rj_sh hω ly_0) (by decide) kX11_movedTo_40 rfl ?_
      refine rj_getR (C0 := RX9) (T := TX9) (N := 8) (j := 3) (r := 48) dX11_movedTo_19 rfl vX11_movedTo_9 rfl (rj_lt hω (k := 47) rfl) (rj_sh hω ly_47) (by decide) kX11_movedTo_382 rfl ?_
      refine rj_iload_n 1 dX11_movedTo_22 rfl rfl ?_
      refine rj_iald dX11_movedTo_23 rfl (rj_lt hω (k := 48) rfl) (rj_sh hω ly_48) (rj_actin hx1) ?_
      refine rj_goto dX11_movedTo_24 rfl ?_
      exact rj_iret dX11_movedTo_28 rfl (Nat.le_of_ble_eq_true rfl) (Nat.le_of_ble_eq_true rfl) ⟨(by unfold fX11_movedTo; try (rw [hx1]); try (simp only [rj_bx]); try (rw [if_neg h3]); try rfl), rfl, rfl⟩
theorem hSX11_ticketAt : yX11_ticketAt.cls ≠ "java/lang/invoke/MethodHandle" ∧ yX11_ticketAt.cls ≠ "java/lang/invoke/VarHandle" ∧ (parseMethodDescriptor yX11_ticketAt.desc).map (fun d => d.parameters.length) = some 2 := by decide +kernel
theorem hVX11_ticketAt : yX11_ticketAt.cls = RX11 ∧ yX11_ticketAt.cls ≠ "java/lang/invoke/MethodHandle" ∧ yX11_ticketAt.cls ≠ "java/lang/invoke/VarHandle" ∧ (parseMethodDescriptor yX11_ticketAt.desc).map (fun d => d.parameters.length) = some 2 := by decide +kernel
theorem vX11_ticketAt_11 : ∀ w ∈ u_ws RX11 TX11 6, w ∈ wsX11_ticketAt := by decide +kernel
theorem kX11_ticketAt_12 : Cond.fieldLink RX11 12 (TX11 0).1 (TX11 0).2.1 (TX11 0).2.2.1 ∈ wsX11_ticketAt := by decide +kernel
theorem vX11_ticketAt_5 : ∀ w ∈ u_ws RX5 TX5 8, w ∈ wsX11_ticketAt := by decide +kernel
theorem kX11_ticketAt_226 : Cond.fieldLink RX11 226 (TX5 7).1 (TX5 7).2.1 (TX5 7).2.2.1 ∈ wsX11_ticketAt := by decide +kernel
theorem vX11_ticketAt_8 : ∀ w ∈ u_ws RX8 TX8 5, w ∈ wsX11_ticketAt := by decide +kernel
theorem kX11_ticketAt_385 : Cond.fieldLink RX11 385 (TX8 1).1 (TX8 1).2.1 (TX8 1).2.2.1 ∈ wsX11_ticketAt := by decide +kernel
def fX11_ticketAt (μ : rj_M) (a0 : Int32) (a1 : Int32) : Int32 ⊕ String := (rj_bx (fX11_needPlace μ a0 12) (rj_bx (fX11_needPlace μ a1 4) (.inl (μ.1 41 ((a0 * 4) + a1).toNatClampNeg))))
set_option maxHeartbeats 40000000 in
set_option maxRecDepth 100000 in
theorem sX11_ticketAt {g : rj_G} {ω : rj_W} (hω : rj_ok ω) (μ : rj_M) (a0 : Int32) (a1 : Int32)   : rj_Sp g yX11_ticketAt wsX11_ticketAt (rj_rm 7 2) [.ref (ω.2.2 0), .int a0, .int a1] ω μ (rj_D (rj_oi (fX11_ticketAt μ a0 a1)) ω μ) := by
  refine rj_of' (cc := cX11_ticketAt) (nL := 3) (ret := (some .int)) (own := RX11) (l0 := [(0, .ref (ω.2.2 0)), (1, .int a0), (2, .int a1)]) rfl (by decide +kernel) rfl (Nat.le_of_ble_eq_true rfl) rfl ?_
  refine rj_iload_n 1 dX11_ticketAt_0 rfl rfl ?_
  refine rj_bipush (v := 12) dX11_ticketAt_1 rfl (by decide) ?_
  refine rj_cSx (rest := []) (sX11_needPlace (g := g) (ω := ω) hω μ a0 12   ) gX11_ticketAt_X11_needPlace rfl hSX11_needPlace ⟨Nat.le_of_ble_eq_true rfl, Nat.le_of_ble_eq_true rfl⟩ dX11_ticketAt_3 rfl rfl rfl (Nat.le_of_ble_eq_true rfl) rfl (Nat.le_of_ble_eq_true rfl) (fun E hE2 => ?_) (fun hx1 => ?_)
  · exact ⟨(by unfold fX11_ticketAt; try (rw [hE2]); try (simp only [rj_bx]); try rfl), rfl, rfl⟩
  · refine rj_iload_n 2 dX11_ticketAt_6 rfl rfl ?_
    refine rj_iconst (v := 4) dX11_ticketAt_7 rfl (by decide) ?_
    refine rj_cSx (rest := []) (sX11_needPlace (g := g) (ω := ω) hω μ a1 4   ) gX11_ticketAt_X11_needPlace rfl hSX11_needPlace ⟨Nat.le_of_ble_eq_true rfl, Nat.le_of_ble_eq_true rfl⟩ dX11_ticketAt_8 rfl rfl rfl (Nat.le_of_ble_eq_true rfl) rfl (Nat.le_of_ble_eq_true rfl) (fun E hE4 => ?_) (fun hx3 => ?_)
    · exact ⟨(by unfold fX11_ticketAt; try (rw [hx1]); try (simp only [rj_bx]); try (rw [hE4]); try (simp only [rj_bx]); try rfl), rfl, rfl⟩
    · refine rj_aload_n 0 dX11_ticketAt_11 rfl rfl ?_
      refine rj_getR (C0 := RX11) (T := TX11) (N := 6) (j := 0) (r := 1) dX11_ticketAt_12 rfl vX11_ticketAt_11 rfl (rj_lt hω (k := 0) rfl) (rj_sh hω ly_0) (by decide) kX11_ticketAt_12 rfl ?_
      refine rj_getR (C0 := RX5) (T := TX5) (N := 8) (j := 7) (r := 39) dX11_ticketAt_15 rfl vX11_ticketAt_5 rfl (rj_lt hω (k := 1) rfl) (rj_sh hω ly_1) (by decide) kX11_ticketAt_226 rfl ?_
      refine rj_getR (C0 := RX8) (T := TX8) (N := 5) (j := 1) (r := 41) dX11_ticketAt_18 rfl vX11_ticketAt_8 rfl (rj_lt hω (k := 39) rfl) (rj_sh hω ly_39) (by decide) kX11_ticketAt_385 rfl ?_
      refine rj_iload_n 1 dX11_ticketAt_21 rfl rfl ?_
      refine rj_iconst (v := 4) dX11_ticketAt_22 rfl (by decide) ?_
      refine rj_imul dX11_ticketAt_23 rfl ?_
      refine rj_iload_n 2 dX11_ticketAt_24 rfl rfl ?_
      refine rj_iadd dX11_ticketAt_25 rfl ?_
      refine rj_iald dX11_ticketAt_26 rfl (rj_lt hω (k := 41) rfl) (rj_sh hω ly_41) (rj_vle (rj_vadd (N := 48) (rj_vmulr (k := 4) (N := 45) (rj_placein hx1 rfl) rfl rfl) (rj_placein hx3 rfl) rfl rfl) rfl) ?_
      exact rj_iret dX11_ticketAt_27 rfl (Nat.le_of_ble_eq_true rfl) (Nat.le_of_ble_eq_true rfl) ⟨(by unfold fX11_ticketAt; try (rw [hx1]); try (simp only [rj_bx]); try (rw [hx3]); try (simp only [rj_bx]); try rfl), rfl, rfl⟩
theorem hSX11_balance : yX11_balance.cls ≠ "java/lang/invoke/MethodHandle" ∧ yX11_balance.cls ≠ "java/lang/invoke/VarHandle" ∧ (parseMethodDescriptor yX11_balance.desc).map (fun d => d.parameters.length) = some 2 := by decide +kernel
theorem hVX11_balance : yX11_balance.cls = RX11 ∧ yX11_balance.cls ≠ "java/lang/invoke/MethodHandle" ∧ yX11_balance.cls ≠ "java/lang/invoke/VarHandle" ∧ (parseMethodDescriptor yX11_balance.desc).map (fun d => d.parameters.length) = some 2 := by decide +kernel
theorem vX11_balance_11 : ∀ w ∈ u_ws RX11 TX11 6, w ∈ wsX11_balance := by decide +kernel
theorem kX11_balance_12 : Cond.fieldLink RX11 12 (TX11 0).1 (TX11 0).2.1 (TX11 0).2.2.1 ∈ wsX11_balance := by decide +kernel
theorem vX11_balance_5 : ∀ w ∈ u_ws RX5 TX5 8, w ∈ wsX11_balance := by decide +kernel
theorem kX11_balance_226 : Cond.fieldLink RX11 226 (TX5 7).1 (TX5 7).2.1 (TX5 7).2.2.1 ∈ wsX11_balance := by decide +kernel
theorem vX11_balance_8 : ∀ w ∈ u_ws RX8 TX8 5, w ∈ wsX11_balance := by decide +kernel
theorem kX11_balance_396 : Cond.fieldLink RX11 396 (TX8 4).1 (TX8 4).2.1 (TX8 4).2.2.1 ∈ wsX11_balance := by decide +kernel
theorem kX11_balance_392 : Cond.fieldLink RX11 392 (TX8 3).1 (TX8 3).2.1 (TX8 3).2.2.1 ∈ wsX11_balance := by decide +kernel
theorem kX11_balance_388 : Cond.fieldLink RX11 388 (TX8 2).1 (TX8 2).2.1 (TX8 2).2.2.1 ∈ wsX11_balance := by decide +kernel
def fX11_balance (μ : rj_M) (a0 : Int32) (a1 : Int32) : Int64 ⊕ String := (rj_bx (fX11_needRange μ a0 0 2) (if a0 = 0 then (rj_bx (fX11_needRange μ a1 0 0) (.inl (μ.2.1 39 2))) else (if a0 = 1 then (rj_bx (fX11_needPlace μ a1 12) (.inl (μ.2.1 42 a1.toNatClampNeg))) else (rj_bx (fX11_needPlace μ a1 12) (.inl (μ.2.1 43 a1.toNatClampNeg))))))
set_option maxHeartbeats 40000000 in
set_option maxRecDepth 100000 in
theorem sX11_balance {g : rj_G} {ω : rj_W} (hω : rj_ok ω) (μ : rj_M) (a0 : Int32) (a1 : Int32)   : rj_Sp g yX11_balance wsX11_balance (rj_rm 7 2) [.ref (ω.2.2 0), .int a0, .int a1] ω μ (rj_D (rj_ol (fX11_balance μ a0 a1)) ω μ) := by
  refine rj_of' (cc := cX11_balance) (nL := 3) (ret := (some .long)) (own := RX11) (l0 := [(0, .ref (ω.2.2 0)), (1, .int a0), (2, .int a1)]) rfl (by decide +kernel) rfl (Nat.le_of_ble_eq_true rfl) rfl ?_
  refine rj_iload_n 1 dX11_balance_0 rfl rfl ?_
  refine rj_iconst (v := 0) dX11_balance_1 rfl (by decide) ?_
  refine rj_iconst (v := 2) dX11_balance_2 rfl (by decide) ?_
  refine rj_cSx (rest := []) (sX11_needRange (g := g) (ω := ω) hω μ a0 0 2   ) gX11_balance_X11_needRange rfl hSX11_needRange ⟨Nat.le_of_ble_eq_true rfl, Nat.le_of_ble_eq_true rfl⟩ dX11_balance_3 rfl rfl rfl (Nat.le_of_ble_eq_true rfl) rfl (Nat.le_of_ble_eq_true rfl) (fun E hE2 => ?_) (fun hx1 => ?_)
  · exact ⟨(by unfold fX11_balance; try (rw [hE2]); try (simp only [rj_bx]); try rfl), rfl, rfl⟩
  · refine rj_iload_n 1 dX11_balance_6 rfl rfl ?_
    refine rj_if_ne dX11_balance_7 rfl rfl (fun h3 => ?_) (fun h3 => ?_)
    · refine rj_iload_n 1 dX11_balance_27 rfl rfl ?_
      refine rj_iconst (v := 1) dX11_balance_28 rfl (by decide) ?_
      refine rj_icmp_ne dX11_balance_29 rfl rfl (fun h4 => ?_) (fun h4 => ?_)
      · refine rj_iload_n 2 dX11_balance_51 rfl rfl ?_
        refine rj_bipush (v := 12) dX11_balance_52 rfl (by decide) ?_
        refine rj_cSx (rest := []) (sX11_needPlace (g := g) (ω := ω) hω μ a1 12   ) gX11_balance_X11_needPlace rfl hSX11_needPlace ⟨Nat.le_of_ble_eq_true rfl, Nat.le_of_ble_eq_true rfl⟩ dX11_balance_54 rfl rfl rfl (Nat.le_of_ble_eq_true rfl) rfl (Nat.le_of_ble_eq_true rfl) (fun E hE6 => ?_) (fun hx5 => ?_)
        · exact ⟨(by unfold fX11_balance; try (rw [hx1]); try (simp only [rj_bx]); try (rw [if_neg h3]); try (rw [if_neg h4]); try (rw [hE6]); try (simp only [rj_bx]); try rfl), rfl, rfl⟩
        · refine rj_aload_n 0 dX11_balance_57 rfl rfl ?_
          refine rj_getR (C0 := RX11) (T := TX11) (N := 6) (j := 0) (r := 1) dX11_balance_58 rfl vX11_balance_11 rfl (rj_lt hω (k := 0) rfl) (rj_sh hω ly_0) (by decide) kX11_balance_12 rfl ?_
          refine rj_getR (C0 := RX5) (T := TX5) (N := 8) (j := 7) (r := 39) dX11_balance_61 rfl vX11_balance_5 rfl (rj_lt hω (k := 1) rfl) (rj_sh hω ly_1) (by decide) kX11_balance_226 rfl ?_
          refine rj_getR (C0 := RX8) (T := TX8) (N := 5) (j := 4) (r := 43) dX11_balance_64 rfl vX11_balance_8 rfl (rj_lt hω (k := 39) rfl) (rj_sh hω ly_39) (by decide) kX11_balance_396 rfl ?_
          refine rj_iload_n 2 dX11_balance_67 rfl rfl ?_
          refine rj_lald dX11_balance_68 rfl (rj_lt hω (k := 43) rfl) (rj_sh hω ly_43) (rj_placein hx5 rfl) ?_
          exact rj_lret dX11_balance_69 rfl (Nat.le_of_ble_eq_true rfl) (Nat.le_of_ble_eq_true rfl) ⟨(by unfold fX11_balance; try (rw [hx1]); try (simp only [rj_bx]); try (rw [if_neg h3]); try (rw [if_neg h4]); try (rw [hx5]); try (simp only [rj_bx]); try rfl), rfl, rfl⟩
      · refine rj_iload_n 2 dX11_balance_32 rfl rfl ?_
        refine rj_bipush (v := 12) dX11_balance_33 rfl (by decide) ?_
        refine rj_cSx (rest := []) (sX11_needPlace (g := g) (ω := ω) hω μ a1 12   ) gX11_balance_X11_needPlace rfl hSX11_needPlace ⟨Nat.le_of_ble_eq_true rfl, Nat.le_of_ble_eq_true rfl⟩ dX11_balance_35 rfl rfl rfl (Nat.le_of_ble_eq_true rfl) rfl (Nat.le_of_ble_eq_true rfl) (fun E hE8 => ?_) (fun hx7 => ?_)
        · exact ⟨(by unfold fX11_balance; try (rw [hx1]); try (simp only [rj_bx]); try (rw [if_neg h3]); try (rw [if_pos h4]); try (rw [hE8]); try (simp only [rj_bx]); try rfl), rfl, rfl⟩
        · refine rj_aload_n 0 dX11_balance_38 rfl rfl ?_
          refine rj_getR (C0 := RX11) (T := TX11) (N := 6) (j := 0) (r := 1) dX11_balance_39 rfl vX11_balance_11 rfl (rj_lt hω (k := 0) rfl) (rj_sh hω ly_0) (by decide) kX11_balance_12 rfl ?_
          refine rj_getR (C0 := RX5) (T := TX5) (N := 8) (j := 7) (r := 39) dX11_balance_42 rfl vX11_balance_5 rfl (rj_lt hω (k := 1) rfl) (rj_sh hω ly_1) (by decide) kX11_balance_226 rfl ?_
          refine rj_getR (C0 := RX8) (T := TX8) (N := 5) (j := 3) (r := 42) dX11_balance_45 rfl vX11_balance_8 rfl (rj_lt hω (k := 39) rfl) (rj_sh hω ly_39) (by decide) kX11_balance_392 rfl ?_
          refine rj_iload_n 2 dX11_balance_48 rfl rfl ?_
          refine rj_lald dX11_balance_49 rfl (rj_lt hω (k := 42) rfl) (rj_sh hω ly_42) (rj_placein hx7 rfl) ?_
          exact rj_lret dX11_balance_50 rfl (Nat.le_of_ble_eq_true rfl) (Nat.le_of_ble_eq_true rfl) ⟨(by unfold fX11_balance; try (rw [hx1]); try (simp only [rj_bx]); try (rw [if_neg h3]); try (rw [if_pos h4]); try (rw [hx7]); try (simp only [rj_bx]); try rfl), rfl, rfl⟩
    · refine rj_iload_n 2 dX11_balance_10 rfl rfl ?_
      refine rj_iconst (v := 0) dX11_balance_11 rfl (by decide) ?_
      refine rj_iconst (v := 0) dX11_balance_12 rfl (by decide) ?_
      refine rj_cSx (rest := []) (sX11_needRange (g := g) (ω := ω) hω μ a1 0 0   ) gX11_balance_X11_needRange rfl hSX11_needRange ⟨Nat.le_of_ble_eq_true rfl, Nat.le_of_ble_eq_true rfl⟩ dX11_balance_13 rfl rfl rfl (Nat.le_of_ble_eq_true rfl) rfl (Nat.le_of_ble_eq_true rfl) (fun E hE10 => ?_) (fun hx9 => ?_)
      · exact ⟨(by unfold fX11_balance; try (rw [hx1]); try (simp only [rj_bx]); try (rw [if_pos h3]); try (rw [hE10]); try (simp only [rj_bx]); try rfl), rfl, rfl⟩
      · refine rj_aload_n 0 dX11_balance_16 rfl rfl ?_
        refine rj_getR (C0 := RX11) (T := TX11) (N := 6) (j := 0) (r := 1) dX11_balance_17 rfl vX11_balance_11 rfl (rj_lt hω (k := 0) rfl) (rj_sh hω ly_0) (by decide) kX11_balance_12 rfl ?_
        refine rj_getR (C0 := RX5) (T := TX5) (N := 8) (j := 7) (r := 39) dX11_balance_20 rfl vX11_balance_5 rfl (rj_lt hω (k := 1) rfl) (rj_sh hω ly_1) (by decide) kX11_balance_226 rfl ?_
        refine rj_getL (C0 := RX8) (T := TX8) (N := 5) (j := 2) dX11_balance_23 rfl vX11_balance_8 rfl (rj_lt hω (k := 39) rfl) (rj_sh hω ly_39) (by decide) kX11_balance_388 rfl ?_
        exact rj_lret dX11_balance_26 rfl (Nat.le_of_ble_eq_true rfl) (Nat.le_of_ble_eq_true rfl) ⟨(by unfold fX11_balance; try (rw [hx1]); try (simp only [rj_bx]); try (rw [if_pos h3]); try (rw [hx9]); try (simp only [rj_bx]); try rfl), rfl, rfl⟩
