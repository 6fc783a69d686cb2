theorem hSX4_isInOpenAir : yX4_isInOpenAir.cls ≠ "java/lang/invoke/MethodHandle" ∧ yX4_isInOpenAir.cls ≠ "java/lang/invoke/VarHandle" ∧ (parseMethodDescriptor yX4_isInOpenAir.desc).map (fun d => d.parameters.length) = some 1 := by decide +kernel
theorem hVX4_isInOpenAir : yX4_isInOpenAir.cls = RX4 ∧ yX4_isInOpenAir.cls ≠ "java/lang/invoke/MethodHandle" ∧ yX4_isInOpenAir.cls ≠ "java/lang/invoke/VarHandle" ∧ (parseMethodDescriptor yX4_isInOpenAir.desc).map (fun d => d.parameters.length) = some 1 := by decide +kernel
theorem vX4_isInOpenAir_4 : ∀ w ∈ u_ws RX4 TX4 4, w ∈ wsX4_isInOpenAir := by decide +kernel
theorem kX4_isInOpenAir_9 : Cond.fieldLink RX4 9 (TX4 0).1 (TX4 0).2.1 (TX4 0).2.2.1 ∈ wsX4_isInOpenAir := by decide +kernel
def fX4_isInOpenAir (μ : rj_M) (a0 : Int32) : Int32 := (if a0 < 0 then 0 else (if 4 ≤ a0 then 0 else (if (μ.1 4 a0.toNatClampNeg) = 0 then 0 else 1)))
set_option maxHeartbeats 4000000 in
set_option maxRecDepth 100000 in
theorem sX4_isInOpenAir {g : rj_G} {ω : rj_W} (hω : rj_ok ω) (μ : rj_M) (a0 : Int32)   : rj_Sp g yX4_isInOpenAir wsX4_isInOpenAir (rj_rm 0 0) [.ref (ω.2.2 3), .int a0] ω μ (rj_D (.inl (some (.int (fX4_isInOpenAir μ a0)))) ω μ) := by
  refine rj_of' (cc := cX4_isInOpenAir) (nL := 2) (ret := (some .boolean)) (own := RX4) (l0 := [(0, .ref (ω.2.2 3)), (1, .int a0)]) rfl (by decide +kernel) rfl (Nat.le_of_ble_eq_true rfl) rfl ?_
  refine rj_iload_n 1 dX4_isInOpenAir_0 rfl rfl ?_
  refine rj_if_lt dX4_isInOpenAir_1 rfl rfl (fun h1 => ?_) (fun h1 => ?_)
  · refine rj_iconst (v := 0) dX4_isInOpenAir_22 rfl (by decide) ?_
    exact rj_zret dX4_isInOpenAir_23 rfl rfl (Nat.le_of_ble_eq_true rfl) (Nat.le_of_ble_eq_true rfl) ⟨(by unfold fX4_isInOpenAir; rw [if_pos h1]; try rfl), rfl, rfl⟩
  · refine rj_iload_n 1 dX4_isInOpenAir_4 rfl rfl ?_
    refine rj_iconst (v := 4) dX4_isInOpenAir_5 rfl (by decide) ?_
    refine rj_icmp_ge dX4_isInOpenAir_6 rfl rfl (fun h2 => ?_) (fun h2 => ?_)
    · refine rj_iconst (v := 0) dX4_isInOpenAir_22 rfl (by decide) ?_
      exact rj_zret dX4_isInOpenAir_23 rfl rfl (Nat.le_of_ble_eq_true rfl) (Nat.le_of_ble_eq_true rfl) ⟨(by unfold fX4_isInOpenAir; rw [if_neg h1]; rw [if_pos h2]; try rfl), rfl, rfl⟩
    · refine rj_aload_n 0 dX4_isInOpenAir_9 rfl rfl ?_
      refine rj_getR (C0 := RX4) (T := TX4) (N := 4) (j := 0) (r := 4) dX4_isInOpenAir_10 rfl vX4_isInOpenAir_4 rfl (rj_lt hω (k := 3) rfl) (rj_sh hω ly_3) (by decide) kX4_isInOpenAir_9 rfl ?_
      refine rj_iload_n 1 dX4_isInOpenAir_13 rfl rfl ?_
      refine rj_zald dX4_isInOpenAir_14 rfl (rj_lt hω (k := 4) rfl) (rj_sh hω ly_4) (rj_in h1 h2 rfl) ?_
      refine rj_if_eq dX4_isInOpenAir_15 rfl rfl (fun h3 => ?_) (fun h3 => ?_)
      · refine rj_iconst (v := 0) dX4_isInOpenAir_22 rfl (by decide) ?_
        exact rj_zret dX4_isInOpenAir_23 rfl rfl (Nat.le_of_ble_eq_true rfl) (Nat.le_of_ble_eq_true rfl) ⟨(by unfold fX4_isInOpenAir; rw [if_neg h1]; rw [if_neg h2]; rw [if_pos h3]; try rfl), rfl, rfl⟩
      · refine rj_iconst (v := 1) dX4_isInOpenAir_18 rfl (by decide) ?_
        refine rj_goto dX4_isInOpenAir_19 rfl ?_
        exact rj_zret dX4_isInOpenAir_23 rfl rfl (Nat.le_of_ble_eq_true rfl) (Nat.le_of_ble_eq_true rfl) ⟨(by unfold fX4_isInOpenAir; rw [if_neg h1]; rw [if_neg h2]; rw [if_neg h3]; try rfl), rfl, rfl⟩
theorem nX4_isInOpenAir (μ : rj_M) (a0 : Int32) : narrow .boolean (.int (fX4_isInOpenAir μ a0)) = .int (fX4_isInOpenAir μ a0) := by
  unfold fX4_isInOpenAir
  (repeat (first | rfl | split))
theorem hSX4_uncover : yX4_uncover.cls ≠ "java/lang/invoke/MethodHandle" ∧ yX4_uncover.cls ≠ "java/lang/invoke/VarHandle" ∧ (parseMethodDescriptor yX4_uncover.desc).map (fun d => d.parameters.length) = some 2 := by decide +kernel
theorem hVX4_uncover : yX4_uncover.cls = RX4 ∧ yX4_uncover.cls ≠ "java/lang/invoke/MethodHandle" ∧ yX4_uncover.cls ≠ "java/lang/invoke/VarHandle" ∧ (parseMethodDescriptor yX4_uncover.desc).map (fun d => d.parameters.length) = some 2 := by decide +kernel
theorem vX4_uncover_4 : ∀ w ∈ u_ws RX4 TX4 4, w ∈ wsX4_uncover := by decide +kernel
theorem kX4_uncover_9 : Cond.fieldLink RX4 9 (TX4 0).1 (TX4 0).2.1 (TX4 0).2.2.1 ∈ wsX4_uncover := by decide +kernel
def fX4_uncover (μ : rj_M) (a0 : Int32) (a1 : Int32) : Int32 := (if a0 < 0 then (fX4_isInOpenAir μ a0) else (if 4 ≤ a0 then (fX4_isInOpenAir μ a0) else (fX4_isInOpenAir μ a0)))
def mX4_uncover (μ : rj_M) (a0 : Int32) (a1 : Int32) : rj_M := (if a0 < 0 then μ else (if 4 ≤ a0 then μ else (rj_pi μ 4 a0.toNatClampNeg (vp_nar .boolean a1))))
set_option maxHeartbeats 4000000 in
set_option maxRecDepth 100000 in
theorem sX4_uncover {g : rj_G} {ω : rj_W} (hω : rj_ok ω) (μ : rj_M) (a0 : Int32) (a1 : Int32)   : rj_Sp g yX4_uncover wsX4_uncover (rj_rm 1 0) [.ref (ω.2.2 3), .int a0, .int a1] ω μ (rj_D (.inl (some (.int (fX4_uncover μ a0 a1)))) ω (mX4_uncover μ a0 a1)) := by
  refine rj_of' (cc := cX4_uncover) (nL := 4) (ret := (some .boolean)) (own := RX4) (l0 := [(0, .ref (ω.2.2 3)), (1, .int a0), (2, .int a1)]) rfl (by decide +kernel) rfl (Nat.le_of_ble_eq_true rfl) rfl ?_
  refine rj_aload_n 0 dX4_uncover_0 rfl rfl ?_
  refine rj_iload_n 1 dX4_uncover_1 rfl rfl ?_
  refine rj_cV (rest := []) (sX4_isInOpenAir (g := g) (ω := ω) hω μ a0  ) gX4_uncover_X4_isInOpenAir (rj_lt hω (k := 3) rfl) (rj_sh hω ly_3) rfl rfl hVX4_isInOpenAir ⟨Nat.le_of_ble_eq_true rfl, Nat.le_of_ble_eq_true rfl⟩ dX4_uncover_2 rfl rfl rfl (Nat.le_of_ble_eq_true rfl) rfl (Nat.le_of_ble_eq_true rfl) rfl ?_
  refine rj_istore_n (l' := [(3, .int (fX4_isInOpenAir μ a0)), (0, .ref (ω.2.2 3)), (1, .int a0), (2, .int a1)]) dX4_uncover_5 rfl (rj_bl rfl) rfl ?_
  refine rj_iload_n 2 dX4_uncover_6 rfl rfl ?_
  refine rj_if_lt dX4_uncover_7 rfl rfl (fun h1 => ?_) (fun h1 => ?_)
  · refine rj_iload_n 0 dX4_uncover_22 rfl rfl ?_
    exact rj_zret dX4_uncover_23 rfl (nX4_isInOpenAir ..) (Nat.le_of_ble_eq_true rfl) (Nat.le_of_ble_eq_true rfl) ⟨(by unfold fX4_uncover; rw [if_pos h1]; try rfl), rfl, (by unfold mX4_uncover; rw [if_pos h1]; try rfl)⟩
  · refine rj_iload_n 2 dX4_uncover_10 rfl rfl ?_
    refine rj_iconst (v := 4) dX4_uncover_11 rfl (by decide) ?_
    refine rj_icmp_ge dX4_uncover_12 rfl rfl (fun h2 => ?_) (fun h2 => ?_)
    · refine rj_iload_n 0 dX4_uncover_22 rfl rfl ?_
      exact rj_zret dX4_uncover_23 rfl (nX4_isInOpenAir ..) (Nat.le_of_ble_eq_true rfl) (Nat.le_of_ble_eq_true rfl) ⟨(by unfold fX4_uncover; rw [if_neg h1]; rw [if_pos h2]; try rfl), rfl, (by unfold mX4_uncover; rw [if_neg h1]; rw [if_pos h2]; try rfl)⟩
    · refine rj_aload_n 1 dX4_uncover_15 rfl rfl ?_
      refine rj_getR (C0 := RX4) (T := TX4) (N := 4) (j := 0) (r := 4) dX4_uncover_16 rfl vX4_uncover_4 rfl (rj_lt hω (k := 3) rfl) (rj_sh hω ly_3) (by decide) kX4_uncover_9 rfl ?_
      refine rj_iload_n 2 dX4_uncover_19 rfl rfl ?_
      refine rj_iload_n 3 dX4_uncover_20 rfl rfl ?_
      refine rj_zast dX4_uncover_21 rfl (rj_lt hω (k := 4) rfl) (rj_sh hω ly_4) (rj_in h1 h2 rfl) ?_
      refine rj_iload_n 0 dX4_uncover_22 rfl rfl ?_
      exact rj_zret dX4_uncover_23 rfl (nX4_isInOpenAir ..) (Nat.le_of_ble_eq_true rfl) (Nat.le_of_ble_eq_true rfl) ⟨(by unfold fX4_uncover; rw [if_neg h1]; rw [if_neg h2]; try rfl), rfl, (by unfold mX4_uncover; rw [if_neg h1]; rw [if_neg h2]; try rfl)⟩
theorem nX4_uncover (μ : rj_M) (a0 : Int32) (a1 : Int32) : narrow .boolean (.int (fX4_uncover μ a0 a1)) = .int (fX4_uncover μ a0 a1) := by
  unfold fX4_uncover
  (repeat (first | rfl | (with_reducible exact nX4_isInOpenAir ..) | split))
theorem hSX4_minutesBetween : yX4_minutesBetween.cls ≠ "java/lang/invoke/MethodHandle" ∧ yX4_minutesBetween.cls ≠ "java/lang/invoke/VarHandle" ∧ (parseMethodDescriptor yX4_minutesBetween.desc).map (fun d => d.parameters.length) = some 2 := by decide +kernel
theorem hVX4_minutesBetween : yX4_minutesBetween.cls = RX4 ∧ yX4_minutesBetween.cls ≠ "java/lang/invoke/MethodHandle" ∧ yX4_minutesBetween.cls ≠ "java/lang/invoke/VarHandle" ∧ (parseMethodDescriptor yX4_minutesBetween.desc).map (fun d => d.parameters.length) = some 2 := by decide +kernel
theorem vX4_minutesBetween_4 : ∀ w ∈ u_ws RX4 TX4 4, w ∈ wsX4_minutesBetween := by decide +kernel
theorem kX4_minutesBetween_19 : Cond.fieldLink RX4 19 (TX4 2).1 (TX4 2).2.1 (TX4 2).2.2.1 ∈ wsX4_minutesBetween := by decide +kernel
def fX4_minutesBetween (μ : rj_M) (a0 : Int32) (a1 : Int32) : Int32 := (if ((a0 * 4) + a1) < 0 then 0 else (if ((a0 * 4) + a1) < 16 then (μ.1 6 ((a0 * 4) + a1).toNatClampNeg) else 0))
set_option maxHeartbeats 4000000 in
set_option maxRecDepth 100000 in
theorem sX4_minutesBetween {g : rj_G} {ω : rj_W} (hω : rj_ok ω) (μ : rj_M) (a0 : Int32) (a1 : Int32)   : rj_Sp g yX4_minutesBetween wsX4_minutesBetween (rj_rm 0 0) [.ref (ω.2.2 3), .int a0, .int a1] ω μ (rj_D (.inl (some (.int (fX4_minutesBetween μ a0 a1)))) ω μ) := by
  refine rj_of' (cc := cX4_minutesBetween) (nL := 4) (ret := (some .int)) (own := RX4) (l0 := [(0, .ref (ω.2.2 3)), (1, .int a0), (2, .int a1)]) rfl (by decide +kernel) rfl (Nat.le_of_ble_eq_true rfl) rfl ?_
  refine rj_iload_n 1 dX4_minutesBetween_0 rfl rfl ?_
  refine rj_iconst (v := 4) dX4_minutesBetween_1 rfl (by decide) ?_
  refine rj_imul dX4_minutesBetween_2 rfl ?_
  refine rj_iload_n 2 dX4_minutesBetween_3 rfl rfl ?_
  refine rj_iadd dX4_minutesBetween_4 rfl ?_
  refine rj_istore_n (l' := [(3, .int ((a0 * 4) + a1)), (0, .ref (ω.2.2 3)), (1, .int a0), (2, .int a1)]) dX4_minutesBetween_5 rfl (rj_bl rfl) rfl ?_
  refine rj_iload_n 0 dX4_minutesBetween_6 rfl rfl ?_
  refine rj_if_lt dX4_minutesBetween_7 rfl rfl (fun h1 => ?_) (fun h1 => ?_)
  · refine rj_iconst (v := 0) dX4_minutesBetween_19 rfl (by decide) ?_
    refine rj_goto dX4_minutesBetween_20 rfl ?_
    exact rj_iret dX4_minutesBetween_29 rfl (Nat.le_of_ble_eq_true rfl) (Nat.le_of_ble_eq_true rfl) ⟨(by unfold fX4_minutesBetween; rw [if_pos h1]; try rfl), rfl, rfl⟩
  · refine rj_iload_n 0 dX4_minutesBetween_10 rfl rfl ?_
    refine rj_aload_n 1 dX4_minutesBetween_11 rfl rfl ?_
    refine rj_getR (C0 := RX4) (T := TX4) (N := 4) (j := 2) (r := 6) dX4_minutesBetween_12 rfl vX4_minutesBetween_4 rfl (rj_lt hω (k := 3) rfl) (rj_sh hω ly_3) (by decide) kX4_minutesBetween_19 rfl ?_
    refine rj_alen (v := 16) dX4_minutesBetween_15 rfl (rj_lt hω (k := 6) rfl) (rj_sh hω ly_6) rfl rfl ?_
    refine rj_icmp_lt dX4_minutesBetween_16 rfl rfl (fun h2 => ?_) (fun h2 => ?_)
    · refine rj_aload_n 1 dX4_minutesBetween_23 rfl rfl ?_
      refine rj_getR (C0 := RX4) (T := TX4) (N := 4) (j := 2) (r := 6) dX4_minutesBetween_24 rfl vX4_minutesBetween_4 rfl (rj_lt hω (k := 3) rfl) (rj_sh hω ly_3) (by decide) kX4_minutesBetween_19 rfl ?_
      refine rj_iload_n 0 dX4_minutesBetween_27 rfl rfl ?_
      refine rj_iald dX4_minutesBetween_28 rfl (rj_lt hω (k := 6) rfl) (rj_sh hω ly_6) (rj_in h1 (Int32.not_le.mpr h2) rfl) ?_
      exact rj_iret dX4_minutesBetween_29 rfl (Nat.le_of_ble_eq_true rfl) (Nat.le_of_ble_eq_true rfl) ⟨(by unfold fX4_minutesBetween; rw [if_neg h1]; rw [if_pos h2]; try rfl), rfl, rfl⟩
    · refine rj_iconst (v := 0) dX4_minutesBetween_19 rfl (by decide) ?_
      refine rj_goto dX4_minutesBetween_20 rfl ?_
      exact rj_iret dX4_minutesBetween_29 rfl (Nat.le_of_ble_eq_true rfl) (Nat.le_of_ble_eq_true rfl) ⟨(by unfold fX4_minutesBetween; rw [if_neg h1]; rw [if_neg h2]; try rfl), rfl, rfl⟩
theorem rj_gridin {i j : Nat} (hi : i < 4) (hj : j < 4) : vp_in ((nI i * 4) + nI j) 16 := by
  rw [show (nI i * 4 : Int32) = nI (i * 4) from pk_mul i 4, nI_add]
  exact vp_in_nI (by omega) (rj_bl rfl)
theorem hSX4_measureWalks : yX4_measureWalks.cls ≠ "java/lang/invoke/MethodHandle" ∧ yX4_measureWalks.cls ≠ "java/lang/invoke/VarHandle" ∧ (parseMethodDescriptor yX4_measureWalks.desc).map (fun d => d.parameters.length) = some 0 := by decide +kernel
theorem hVX4_measureWalks : yX4_measureWalks.cls = RX4 ∧ yX4_measureWalks.cls ≠ "java/lang/invoke/MethodHandle" ∧ yX4_measureWalks.cls ≠ "java/lang/invoke/VarHandle" ∧ (parseMethodDescriptor yX4_measureWalks.desc).map (fun d => d.parameters.length) = some 0 := by decide +kernel
theorem vX4_measureWalks_4 : ∀ w ∈ u_ws RX4 TX4 4, w ∈ wsX4_measureWalks := by decide +kernel
theorem kX4_measureWalks_15 : Cond.fieldLink RX4 15 (TX4 1).1 (TX4 1).2.1 (TX4 1).2.2.1 ∈ wsX4_measureWalks := by decide +kernel
theorem kX4_measureWalks_19 : Cond.fieldLink RX4 19 (TX4 2).1 (TX4 2).2.1 (TX4 2).2.2.1 ∈ wsX4_measureWalks := by decide +kernel
theorem jX4_measureWalks_29_i : Cond.initialized yX11_copyRow.cls ∈ wsX4_measureWalks := by decide +kernel
theorem jX4_measureWalks_29_s : Cond.static yX11_copyRow ∈ wsX4_measureWalks := by decide +kernel
theorem jX4_measureWalks_29_n : (RX4, 29, yX11_copyRow, "Festivalgrounds") ∈ rj_nw := by decide +kernel
theorem jX4_measureWalks_44_0 : Cond.methodLink RX4 44 Lib.Math.min.name ∈ wsX4_measureWalks := by decide +kernel
theorem jX4_measureWalks_44_1 : Cond.static Lib.Math.min.name ∈ wsX4_measureWalks := by decide +kernel
theorem jX4_measureWalks_44_2 : Cond.initialized "java/lang/Math" ∈ wsX4_measureWalks := by decide +kernel
theorem jX4_measureWalks_44_3 : Cond.code Lib.Math.min.name Lib.Math.min.code 2 (some .int) ∈ wsX4_measureWalks := by decide +kernel
def bX4_measureWalks_27 (μ : rj_M) (j13 : Nat) (s13 : rj_M) (j20 : Nat) (s20 : rj_M) (j27 : Nat) (s27 : rj_M) : rj_M := (rj_pi s27 6 (((nI j20) * 4) + (nI j27)).toNatClampNeg (if ((s27.1 6 (((nI j20) * 4) + (nI j13)).toNatClampNeg) + (s27.1 6 (((nI j13) * 4) + (nI j27)).toNatClampNeg)) < (s27.1 6 (((nI j20) * 4) + (nI j27)).toNatClampNeg) then ((s27.1 6 (((nI j20) * 4) + (nI j13)).toNatClampNeg) + (s27.1 6 (((nI j13) * 4) + (nI j27)).toNatClampNeg)) else (s27.1 6 (((nI j20) * 4) + (nI j27)).toNatClampNeg)))
set_option maxHeartbeats 4000000 in
set_option maxRecDepth 100000 in
theorem lX4_measureWalks_27 {g : rj_G} {ω : rj_W} (hω : rj_ok ω) (μ : rj_M) (j13 : Nat) (s13 : rj_M) (j20 : Nat) (s20 : rj_M)   (hl13 : j13 < 4) (hl20 : j20 < 4)  {F : rj_F} : ∀ (r j : Nat) (s : rj_M), j + r = 4 → (rj_R g RX4 cX4_measureWalks 6 none wsX4_measureWalks [] (rj_rm 2 0) F 0 ω (rj_fo (bX4_measureWalks_27 μ j13 s13 j20 s20) r j s) [(0, .ref (ω.2.2 3)), (1, .int (nI j13)), (2, .int (nI j20)), (3, .int (nI 4))] 87 []) → rj_R g RX4 cX4_measureWalks 6 none wsX4_measureWalks [] (rj_rm 2 0) F 0 ω s [(0, .ref (ω.2.2 3)), (1, .int (nI j13)), (2, .int (nI j20)), (3, .int (nI j))] 27 [] := by
  intro r
  induction r with
  | zero =>
    intro j s hj K
    have e0 : j = 4 := by omega
    have hge : 4 ≤ nI j := by
      rw [e0]
      exact Int32.le_refl _
    refine rj_iload_n 3 dX4_measureWalks_27 rfl rfl ?_
    refine rj_iconst (v := 4) dX4_measureWalks_28 rfl (by decide) ?_
    refine rj_icmp_ge dX4_measureWalks_29 rfl rfl (fun h4 => ?_) (fun h4 => ?_)
    · have e1 : nI j = nI 4 := by rw [e0]
      rw [e1]
      exact K
    · exact absurd hge h4
  | succ r ih =>
    intro j27 s27 hj K
    have hl27 : j27 < 4 := by omega
    have hg27 : ¬ 4 ≤ nI j27 := nI_ge hl27 (rj_bl rfl)
    refine rj_iload_n 3 dX4_measureWalks_27 rfl rfl ?_
    refine rj_iconst (v := 4) dX4_measureWalks_28 rfl (by decide) ?_
    refine rj_icmp_ge dX4_measureWalks_29 rfl rfl (fun h3 => ?_) (fun h3 => ?_)
    · exact absurd h3 hg27
    · refine rj_aload_n 0 dX4_measureWalks_32 rfl rfl ?_
      refine rj_getR (C0 := RX4) (T := TX4) (N := 4) (j := 2) (r := 6) dX4_measureWalks_33 rfl vX4_measureWalks_4 rfl (rj_lt hω (k := 3) rfl) (rj_sh hω ly_3) (by decide) kX4_measureWalks_19 rfl ?_
      refine rj_iload_n 2 dX4_measureWalks_36 rfl rfl ?_
      refine rj_iconst (v := 4) dX4_measureWalks_37 rfl (by decide) ?_
      refine rj_imul dX4_measureWalks_38 rfl ?_
      refine rj_iload_n 1 dX4_measureWalks_39 rfl rfl ?_
      refine rj_iadd dX4_measureWalks_40 rfl ?_
      refine rj_iald dX4_measureWalks_41 rfl (rj_lt hω (k := 6) rfl) (rj_sh hω ly_6) (rj_gridin hl20 hl13) ?_
      refine rj_aload_n 0 dX4_measureWalks_42 rfl rfl ?_
      refine rj_getR (C0 := RX4) (T := TX4) (N := 4) (j := 2) (r := 6) dX4_measureWalks_43 rfl vX4_measureWalks_4 rfl (rj_lt hω (k := 3) rfl) (rj_sh hω ly_3) (by decide) kX4_measureWalks_19 rfl ?_
      refine rj_iload_n 1 dX4_measureWalks_46 rfl rfl ?_
      refine rj_iconst (v := 4) dX4_measureWalks_47 rfl (by decide) ?_
      refine rj_imul dX4_measureWalks_48 rfl ?_
      refine rj_iload_n 3 dX4_measureWalks_49 rfl rfl ?_
      refine rj_iadd dX4_measureWalks_50 rfl ?_
      refine rj_iald dX4_measureWalks_51 rfl (rj_lt hω (k := 6) rfl) (rj_sh hω ly_6) (rj_gridin hl13 hl27) ?_
      refine rj_iadd dX4_measureWalks_52 rfl ?_
      refine rj_istore (l' := [(4, .int ((s27.1 6 (((nI j20) * 4) + (nI j13)).toNatClampNeg) + (s27.1 6 (((nI j13) * 4) + (nI j27)).toNatClampNeg))), (0, .ref (ω.2.2 3)), (1, .int (nI j13)), (2, .int (nI j20)), (3, .int (nI j27))]) dX4_measureWalks_53 rfl (rj_bl rfl) rfl ?_
      refine rj_iload_n 3 dX4_measureWalks_55 rfl rfl ?_
      refine rj_iconst (v := 4) dX4_measureWalks_56 rfl (by decide) ?_
      refine rj_imul dX4_measureWalks_57 rfl ?_
      refine rj_iload_n 4 dX4_measureWalks_58 rfl rfl ?_
      refine rj_iadd dX4_measureWalks_59 rfl ?_
      refine rj_istore (l' := [(5, .int (((nI j20) * 4) + (nI j27))), (4, .int ((s27.1 6 (((nI j20) * 4) + (nI j13)).toNatClampNeg) + (s27.1 6 (((nI j13) * 4) + (nI j27)).toNatClampNeg))), (0, .ref (ω.2.2 3)), (1, .int (nI j13)), (2, .int (nI j20)), (3, .int (nI j27))]) dX4_measureWalks_60 rfl (rj_bl rfl) rfl ?_
      refine rj_aload_n 2 dX4_measureWalks_62 rfl rfl ?_
      refine rj_getR (C0 := RX4) (T := TX4) (N := 4) (j := 2) (r := 6) dX4_measureWalks_63 rfl vX4_measureWalks_4 rfl (rj_lt hω (k := 3) rfl) (rj_sh hω ly_3) (by decide) kX4_measureWalks_19 rfl ?_
      refine rj_iload 0 dX4_measureWalks_66 rfl rfl ?_
      refine rj_aload_n 2 dX4_measureWalks_68 rfl rfl ?_
      refine rj_getR (C0 := RX4) (T := TX4) (N := 4) (j := 2) (r := 6) dX4_measureWalks_69 rfl vX4_measureWalks_4 rfl (rj_lt hω (k := 3) rfl) (rj_sh hω ly_3) (by decide) kX4_measureWalks_19 rfl ?_
      refine rj_iload 0 dX4_measureWalks_72 rfl rfl ?_
      refine rj_iald dX4_measureWalks_74 rfl (rj_lt hω (k := 6) rfl) (rj_sh hω ly_6) (rj_gridin hl20 hl27) ?_
      refine rj_iload 1 dX4_measureWalks_75 rfl rfl ?_
      refine rj_mmin dX4_measureWalks_77 rfl jX4_measureWalks_44_0 jX4_measureWalks_44_1 jX4_measureWalks_44_2 jX4_measureWalks_44_3 (Nat.le_of_ble_eq_true rfl) (Nat.le_of_ble_eq_true rfl) (Nat.le_of_ble_eq_true rfl) (Nat.le_of_ble_eq_true rfl) ?_
      refine rj_iast dX4_measureWalks_80 rfl (rj_lt hω (k := 6) rfl) (rj_sh hω ly_6) (rj_gridin hl20 hl27) ?_
      refine rj_iinc (v := nI (j27 + 1)) (l' := [(3, .int (nI (j27 + 1))), (5, .int (((nI j20) * 4) + (nI j27))), (4, .int ((s27.1 6 (((nI j20) * 4) + (nI j13)).toNatClampNeg) + (s27.1 6 (((nI j13) * 4) + (nI j27)).toNatClampNeg))), (0, .ref (ω.2.2 3)), (1, .int (nI j13)), (2, .int (nI j20))]) 5 dX4_measureWalks_81 rfl rfl (nI_succ j27).symm (rj_bl rfl) rfl ?_
      refine rj_goto dX4_measureWalks_84 rfl ?_
      have e : bX4_measureWalks_27 μ j13 s13 j20 s20 j27 s27 = (rj_pi s27 6 (((nI j20) * 4) + (nI j27)).toNatClampNeg (if ((s27.1 6 (((nI j20) * 4) + (nI j13)).toNatClampNeg) + (s27.1 6 (((nI j13) * 4) + (nI j27)).toNatClampNeg)) < (s27.1 6 (((nI j20) * 4) + (nI j27)).toNatClampNeg) then ((s27.1 6 (((nI j20) * 4) + (nI j13)).toNatClampNeg) + (s27.1 6 (((nI j13) * 4) + (nI j27)).toNatClampNeg)) else (s27.1 6 (((nI j20) * 4) + (nI j27)).toNatClampNeg))) := by unfold bX4_measureWalks_27; rfl
      exact rj_sub (l' := [(0, .ref (ω.2.2 3)), (1, .int (nI j13)), (2, .int (nI j20)), (3, .int (nI (j27 + 1)))]) [3, 4, 5, 0] rfl (ih (j27 + 1) (rj_pi s27 6 (((nI j20) * 4) + (nI j27)).toNatClampNeg (if ((s27.1 6 (((nI j20) * 4) + (nI j13)).toNatClampNeg) + (s27.1 6 (((nI j13) * 4) + (nI j27)).toNatClampNeg)) < (s27.1 6 (((nI j20) * 4) + (nI j27)).toNatClampNeg) then ((s27.1 6 (((nI j20) * 4) + (nI j13)).toNatClampNeg) + (s27.1 6 (((nI j13) * 4) + (nI j27)).toNatClampNeg)) else (s27.1 6 (((nI j20) * 4) + (nI j27)).toNatClampNeg))) (by omega) (by rw [rj_fo_s, e] at K; exact K))
def bX4_measureWalks_20 (μ : rj_M) (j13 : Nat) (s13 : rj_M) (j20 : Nat) (s20 : rj_M) : rj_M := (rj_fo (bX4_measureWalks_27 μ j13 s13 j20 s20) 4 0 s20)
set_option maxHeartbeats 4000000 in
set_option maxRecDepth 100000 in
theorem lX4_measureWalks_20 {g : rj_G} {ω : rj_W} (hω : rj_ok ω) (μ : rj_M) (j13 : Nat) (s13 : rj_M)   (hl13 : j13 < 4)  {F : rj_F} : ∀ (r j : Nat) (s : rj_M), j + r = 4 → (rj_R g RX4 cX4_measureWalks 6 none wsX4_measureWalks [] (rj_rm 2 0) F 0 ω (rj_fo (bX4_measureWalks_20 μ j13 s13) r j s) [(0, .ref (ω.2.2 3)), (1, .int (nI j13)), (2, .int (nI 4))] 93 []) → rj_R g RX4 cX4_measureWalks 6 none wsX4_measureWalks [] (rj_rm 2 0) F 0 ω s [(0, .ref (ω.2.2 3)), (1, .int (nI j13)), (2, .int (nI j))] 20 [] := by
  intro r
  induction r with
  | zero =>
    intro j s hj K
    have e0 : j = 4 := by omega
    have hge : 4 ≤ nI j := by
      rw [e0]
      exact Int32.le_refl _
    refine rj_iload_n 2 dX4_measureWalks_20 rfl rfl ?_
    refine rj_iconst (v := 4) dX4_measureWalks_21 rfl (by decide) ?_
    refine rj_icmp_ge dX4_measureWalks_22 rfl rfl (fun h5 => ?_) (fun h5 => ?_)
    · have e1 : nI j = nI 4 := by rw [e0]
      rw [e1]
      exact K
    · exact absurd hge h5
  | succ r ih =>
    intro j20 s20 hj K
    have hl20 : j20 < 4 := by omega
    have hg20 : ¬ 4 ≤ nI j20 := nI_ge hl20 (rj_bl rfl)
    refine rj_iload_n 2 dX4_measureWalks_20 rfl rfl ?_
    refine rj_iconst (v := 4) dX4_measureWalks_21 rfl (by decide) ?_
    refine rj_icmp_ge dX4_measureWalks_22 rfl rfl (fun h2 => ?_) (fun h2 => ?_)
    · exact absurd h2 hg20
    · refine rj_iconst (v := 0) dX4_measureWalks_25 rfl (by decide) ?_
      refine rj_istore_n (l' := [(3, .int 0), (0, .ref (ω.2.2 3)), (1, .int (nI j13)), (2, .int (nI j20))]) dX4_measureWalks_26 rfl (rj_bl rfl) rfl ?_
      refine rj_sub (l' := [(0, .ref (ω.2.2 3)), (1, .int (nI j13)), (2, .int (nI j20)), (3, .int (nI 0))]) [1, 2, 3, 0] rfl ?_
      refine lX4_measureWalks_27 hω μ j13 s13 j20 s20   hl13 hl20  4 0 s20 rfl ?_
      refine rj_iinc (v := nI (j20 + 1)) (l' := [(2, .int (nI (j20 + 1))), (0, .ref (ω.2.2 3)), (1, .int (nI j13)), (3, .int (nI 4))]) 2 dX4_measureWalks_87 rfl rfl (nI_succ j20).symm (rj_bl rfl) rfl ?_
      refine rj_goto dX4_measureWalks_90 rfl ?_
      have e : bX4_measureWalks_20 μ j13 s13 j20 s20 = (rj_fo (bX4_measureWalks_27 μ j13 s13 j20 s20) 4 0 s20) := by unfold bX4_measureWalks_20; rfl
      exact rj_sub (l' := [(0, .ref (ω.2.2 3)), (1, .int (nI j13)), (2, .int (nI (j20 + 1)))]) [1, 2, 0] rfl (ih (j20 + 1) (rj_fo (bX4_measureWalks_27 μ j13 s13 j20 s20) 4 0 s20) (by omega) (by rw [rj_fo_s, e] at K; exact K))
def bX4_measureWalks_13 (μ : rj_M) (j13 : Nat) (s13 : rj_M) : rj_M := (rj_fo (bX4_measureWalks_20 μ j13 s13) 4 0 s13)
set_option maxHeartbeats 4000000 in
set_option maxRecDepth 100000 in
theorem lX4_measureWalks_13 {g : rj_G} {ω : rj_W} (hω : rj_ok ω) (μ : rj_M)     {F : rj_F} : ∀ (r j : Nat) (s : rj_M), j + r = 4 → (rj_R g RX4 cX4_measureWalks 6 none wsX4_measureWalks [] (rj_rm 2 0) F 0 ω (rj_fo (bX4_measureWalks_13 μ) r j s) [(0, .ref (ω.2.2 3)), (1, .int (nI 4))] 99 []) → rj_R g RX4 cX4_measureWalks 6 none wsX4_measureWalks [] (rj_rm 2 0) F 0 ω s [(0, .ref (ω.2.2 3)), (1, .int (nI j))] 13 [] := by
  intro r
  induction r with
  | zero =>
    intro j s hj K
    have e0 : j = 4 := by omega
    have hge : 4 ≤ nI j := by
      rw [e0]
      exact Int32.le_refl _
    refine rj_iload_n 1 dX4_measureWalks_13 rfl rfl ?_
    refine rj_iconst (v := 4) dX4_measureWalks_14 rfl (by decide) ?_
    refine rj_icmp_ge dX4_measureWalks_15 rfl rfl (fun h6 => ?_) (fun h6 => ?_)
    · have e1 : nI j = nI 4 := by rw [e0]
      rw [e1]
      exact K
    · exact absurd hge h6
  | succ r ih =>
    intro j13 s13 hj K
    have hl13 : j13 < 4 := by omega
    have hg13 : ¬ 4 ≤ nI j13 := nI_ge hl13 (rj_bl rfl)
    refine rj_iload_n 1 dX4_measureWalks_13 rfl rfl ?_
    refine rj_iconst (v := 4) dX4_measureWalks_14 rfl (by decide) ?_
    refine rj_icmp_ge dX4_measureWalks_15 rfl rfl (fun h1 => ?_) (fun h1 => ?_)
    · exact absurd h1 hg13
    · refine rj_iconst (v := 0) dX4_measureWalks_18 rfl (by decide) ?_
      refine rj_istore_n (l' := [(2, .int 0), (0, .ref (ω.2.2 3)), (1, .int (nI j13))]) dX4_measureWalks_19 rfl (rj_bl rfl) rfl ?_
      refine rj_sub (l' := [(0, .ref (ω.2.2 3)), (1, .int (nI j13)), (2, .int (nI 0))]) [1, 2, 0] rfl ?_
      refine lX4_measureWalks_20 hω μ j13 s13   hl13  4 0 s13 rfl ?_
      refine rj_iinc (v := nI (j13 + 1)) (l' := [(1, .int (nI (j13 + 1))), (0, .ref (ω.2.2 3)), (2, .int (nI 4))]) 1 dX4_measureWalks_93 rfl rfl (nI_succ j13).symm (rj_bl rfl) rfl ?_
      refine rj_goto dX4_measureWalks_96 rfl ?_
      have e : bX4_measureWalks_13 μ j13 s13 = (rj_fo (bX4_measureWalks_20 μ j13 s13) 4 0 s13) := by unfold bX4_measureWalks_13; rfl
      exact rj_sub (l' := [(0, .ref (ω.2.2 3)), (1, .int (nI (j13 + 1)))]) [1, 0] rfl (ih (j13 + 1) (rj_fo (bX4_measureWalks_20 μ j13 s13) 4 0 s13) (by omega) (by rw [rj_fo_s, e] at K; exact K))
def mX4_measureWalks (μ : rj_M) : rj_M := (rj_fo (bX4_measureWalks_13 μ) 4 0 (mX11_copyRow μ 5 16 6 16))
set_option maxHeartbeats 4000000 in
set_option maxRecDepth 100000 in
theorem sX4_measureWalks {g : rj_G} {ω : rj_W} (hω : rj_ok ω) (μ : rj_M)   : rj_Sp g yX4_measureWalks wsX4_measureWalks (rj_rm 2 0) [.ref (ω.2.2 3)] ω μ (rj_D (.inl none) ω (mX4_measureWalks μ)) := by
  refine rj_of' (cc := cX4_measureWalks) (nL := 6) (ret := none) (own := RX4) (l0 := [(0, .ref (ω.2.2 3))]) rfl (by decide +kernel) rfl (Nat.le_of_ble_eq_true rfl) rfl ?_
  refine rj_aload_n 0 dX4_measureWalks_0 rfl rfl ?_
  refine rj_getR (C0 := RX4) (T := TX4) (N := 4) (j := 1) (r := 5) dX4_measureWalks_1 rfl vX4_measureWalks_4 rfl (rj_lt hω (k := 3) rfl) (rj_sh hω ly_3) (by decide) kX4_measureWalks_15 rfl ?_
  refine rj_aload_n 0 dX4_measureWalks_4 rfl rfl ?_
  refine rj_getR (C0 := RX4) (T := TX4) (N := 4) (j := 2) (r := 6) dX4_measureWalks_5 rfl vX4_measureWalks_4 rfl (rj_lt hω (k := 3) rfl) (rj_sh hω ly_3) (by decide) kX4_measureWalks_19 rfl ?_
  refine rj_cSN (rest := []) (sX11_copyRow (g := g) (ω := ω) μ 5 16 6 16 (rj_lt hω (k := 5) rfl) (rj_sh hω ly_5) (rj_bl rfl) (rj_lt hω (k := 6) rfl) (rj_sh hω ly_6) (rj_bl rfl) ) ggX4_measureWalks_X11_copyRow jX4_measureWalks_29_i jX4_measureWalks_29_s jX4_measureWalks_29_n rfl hSX11_copyRow ⟨Nat.le_of_ble_eq_true rfl, Nat.le_of_ble_eq_true rfl⟩ dX4_measureWalks_8 rfl rfl rfl (Nat.le_of_ble_eq_true rfl) rfl (Nat.le_of_ble_eq_true rfl) rfl ?_
  refine rj_iconst (v := 0) dX4_measureWalks_11 rfl (by decide) ?_
  refine rj_istore_n (l' := [(1, .int 0), (0, .ref (ω.2.2 3))]) dX4_measureWalks_12 rfl (rj_bl rfl) rfl ?_
  refine rj_sub (l' := [(0, .ref (ω.2.2 3)), (1, .int (nI 0))]) [1, 0] rfl ?_
  refine lX4_measureWalks_13 hω μ     4 0 (mX11_copyRow μ 5 16 6 16) rfl ?_
  exact rj_vret dX4_measureWalks_99 rfl (Nat.le_of_ble_eq_true rfl) (Nat.le_of_ble_eq_true rfl) ⟨rfl, rfl, (by unfold mX4_measureWalks; rfl)⟩
theorem hSX4_layWay : yX4_layWay.cls ≠ "java/lang/invoke/MethodHandle" ∧ yX4_layWay.cls ≠ "java/lang/invoke/VarHandle" ∧ (parseMethodDescriptor yX4_layWay.desc).map (fun d => d.parameters.length) = some 3 := by decide +kernel
theorem hVX4_layWay : yX4_layWay.cls = RX4 ∧ yX4_layWay.cls ≠ "java/lang/invoke/MethodHandle" ∧ yX4_layWay.cls ≠ "java/lang/invoke/VarHandle" ∧ (parseMethodDescriptor yX4_layWay.desc).map (fun d => d.parameters.length) = some 3 := by decide +kernel
theorem vX4_layWay_4 : ∀ w ∈ u_ws RX4 TX4 4, w ∈ wsX4_layWay := by decide +kernel
theorem kX4_layWay_15 : Cond.fieldLink RX4 15 (TX4 1).1 (TX4 1).2.1 (TX4 1).2.2.1 ∈ wsX4_layWay := by decide +kernel
theorem jX4_layWay_37_i : Cond.initialized yX11_replace.cls ∈ wsX4_layWay := by decide +kernel
theorem jX4_layWay_37_s : Cond.static yX11_replace ∈ wsX4_layWay := by decide +kernel
theorem jX4_layWay_37_n : (RX4, 37, yX11_replace, "Festivalgrounds") ∈ rj_nw := by decide +kernel
def mX4_layWay (μ : rj_M) (a0 : Int32) (a1 : Int32) (a2 : Int32) : rj_M := (mX4_measureWalks (mX11_replace (mX11_replace μ 5 16 ((a0 * 4) + a1) a2) 5 16 ((a1 * 4) + a0) a2))
set_option maxHeartbeats 4000000 in
set_option maxRecDepth 100000 in
theorem sX4_layWay {g : rj_G} {ω : rj_W} (hω : rj_ok ω) (μ : rj_M) (a0 : Int32) (a1 : Int32) (a2 : Int32)   : rj_Sp g yX4_layWay wsX4_layWay (rj_rm 3 0) [.ref (ω.2.2 3), .int a0, .int a1, .int a2] ω μ (rj_D (.inl none) ω (mX4_layWay μ a0 a1 a2)) := by
  refine rj_of' (cc := cX4_layWay) (nL := 4) (ret := none) (own := RX4) (l0 := [(0, .ref (ω.2.2 3)), (1, .int a0), (2, .int a1), (3, .int a2)]) rfl (by decide +kernel) rfl (Nat.le_of_ble_eq_true rfl) rfl ?_
  refine rj_aload_n 0 dX4_layWay_0 rfl rfl ?_
  refine rj_getR (C0 := RX4) (T := TX4) (N := 4) (j := 1) (r := 5) dX4_layWay_1 rfl vX4_layWay_4 rfl (rj_lt hω (k := 3) rfl) (rj_sh hω ly_3) (by decide) kX4_layWay_15 rfl ?_
  refine rj_iload_n 1 dX4_layWay_4 rfl rfl ?_
  refine rj_iconst (v := 4) dX4_layWay_5 rfl (by decide) ?_
  refine rj_imul dX4_layWay_6 rfl ?_
  refine rj_iload_n 2 dX4_layWay_7 rfl rfl ?_
  refine rj_iadd dX4_layWay_8 rfl ?_
  refine rj_iload_n 3 dX4_layWay_9 rfl rfl ?_
  refine rj_cSN (rest := []) (sX11_replace (g := g) (ω := ω) μ 5 16 ((a0 * 4) + a1) a2 (rj_lt hω (k := 5) rfl) (rj_sh hω ly_5) (rj_bl rfl) ) ggX4_layWay_X11_replace jX4_layWay_37_i jX4_layWay_37_s jX4_layWay_37_n rfl hSX11_replace ⟨Nat.le_of_ble_eq_true rfl, Nat.le_of_ble_eq_true rfl⟩ dX4_layWay_10 rfl rfl rfl (Nat.le_of_ble_eq_true rfl) rfl (Nat.le_of_ble_eq_true rfl) rfl ?_
  refine rj_pop dX4_layWay_13 rfl rfl ?_
  refine rj_aload_n 0 dX4_layWay_14 rfl rfl ?_
  refine rj_getR (C0 := RX4) (T := TX4) (N := 4) (j := 1) (r := 5) dX4_layWay_15 rfl vX4_layWay_4 rfl (rj_lt hω (k := 3) rfl) (rj_sh hω ly_3) (by decide) kX4_layWay_15 rfl ?_
  refine rj_iload_n 2 dX4_layWay_18 rfl rfl ?_
  refine rj_iconst (v := 4) dX4_layWay_19 rfl (by decide) ?_
  refine rj_imul dX4_layWay_20 rfl ?_
  refine rj_iload_n 1 dX4_layWay_21 rfl rfl ?_
  refine rj_iadd dX4_layWay_22 rfl ?_
  refine rj_iload_n 3 dX4_layWay_23 rfl rfl ?_
  refine rj_cSN (rest := []) (sX11_replace (g := g) (ω := ω) (mX11_replace μ 5 16 ((a0 * 4) + a1) a2) 5 16 ((a1 * 4) + a0) a2 (rj_lt hω (k := 5) rfl) (rj_sh hω ly_5) (rj_bl rfl) ) ggX4_layWay_X11_replace jX4_layWay_37_i jX4_layWay_37_s jX4_layWay_37_n rfl hSX11_replace ⟨Nat.le_of_ble_eq_true rfl, Nat.le_of_ble_eq_true rfl⟩ dX4_layWay_24 rfl rfl rfl (Nat.le_of_ble_eq_true rfl) rfl (Nat.le_of_ble_eq_true rfl) rfl ?_
  refine rj_pop dX4_layWay_27 rfl rfl ?_
  refine rj_aload_n 0 dX4_layWay_28 rfl rfl ?_
  refine rj_cV (rest := []) (sX4_measureWalks (g := g) (ω := ω) hω (mX11_replace (mX11_replace μ 5 16 ((a0 * 4) + a1) a2) 5 16 ((a1 * 4) + a0) a2)  ) gX4_layWay_X4_measureWalks (rj_lt hω (k := 3) rfl) (rj_sh hω ly_3) rfl rfl hVX4_measureWalks ⟨Nat.le_of_ble_eq_true rfl, Nat.le_of_ble_eq_true rfl⟩ dX4_layWay_29 rfl rfl rfl (Nat.le_of_ble_eq_true rfl) rfl (Nat.le_of_ble_eq_true rfl) rfl ?_
  exact rj_vret dX4_layWay_32 rfl (Nat.le_of_ble_eq_true rfl) (Nat.le_of_ble_eq_true rfl) ⟨rfl, rfl, (by unfold mX4_layWay; rfl)⟩
theorem hSX4_countLost : yX4_countLost.cls ≠ "java/lang/invoke/MethodHandle" ∧ yX4_countLost.cls ≠ "java/lang/invoke/VarHandle" ∧ (parseMethodDescriptor yX4_countLost.desc).map (fun d => d.parameters.length) = some 0 := by decide +kernel
theorem hVX4_countLost : yX4_countLost.cls = RX4 ∧ yX4_countLost.cls ≠ "java/lang/invoke/MethodHandle" ∧ yX4_countLost.cls ≠ "java/lang/invoke/VarHandle" ∧ (parseMethodDescriptor yX4_countLost.desc).map (fun d => d.parameters.length) = some 0 := by decide +kernel
theorem vX4_countLost_4 : ∀ w ∈ u_ws RX4 TX4 4, w ∈ wsX4_countLost := by decide +kernel
theorem kX4_countLost_22 : Cond.fieldLink RX4 22 (TX4 3).1 (TX4 3).2.1 (TX4 3).2.2.1 ∈ wsX4_countLost := by decide +kernel
def bX4_countLost_4 (μ : rj_M) (j4 : Nat) (s4 : Int32) : Int32 := (if (μ.1 7 (nI j4).toNatClampNeg) = (-1) then s4 else (s4 + 1))
set_option maxHeartbeats 4000000 in
set_option maxRecDepth 100000 in
theorem lX4_countLost_4 {g : rj_G} {ω : rj_W} (hω : rj_ok ω) (μ : rj_M)     {F : rj_F} : ∀ (r j : Nat) (s : Int32), j + r = 100 → (rj_R g RX4 cX4_countLost 3 (some .int) wsX4_countLost [] (rj_rm 0 0) F 0 ω μ [(0, .ref (ω.2.2 3)), (1, .int (rj_fo (bX4_countLost_4 μ) r j s)), (2, .int (nI 100))] 29 []) → rj_R g RX4 cX4_countLost 3 (some .int) wsX4_countLost [] (rj_rm 0 0) F 0 ω μ [(0, .ref (ω.2.2 3)), (1, .int s), (2, .int (nI j))] 4 [] := by
  intro r
  induction r with
  | zero =>
    intro j s hj K
    have e0 : j = 100 := by omega
    have hge : 100 ≤ nI j := by
      rw [e0]
      exact Int32.le_refl _
    refine rj_iload_n 2 dX4_countLost_4 rfl rfl ?_
    refine rj_bipush (v := 100) dX4_countLost_5 rfl (by decide) ?_
    refine rj_icmp_ge dX4_countLost_7 rfl rfl (fun h3 => ?_) (fun h3 => ?_)
    · have e1 : nI j = nI 100 := by rw [e0]
      rw [e1]
      exact K
    · exact absurd hge h3
  | succ r ih =>
    intro j4 s4 hj K
    have hl4 : j4 < 100 := by omega
    have hg4 : ¬ 100 ≤ nI j4 := nI_ge hl4 (rj_bl rfl)
    refine rj_iload_n 2 dX4_countLost_4 rfl rfl ?_
    refine rj_bipush (v := 100) dX4_countLost_5 rfl (by decide) ?_
    refine rj_icmp_ge dX4_countLost_7 rfl rfl (fun h1 => ?_) (fun h1 => ?_)
    · exact absurd h1 hg4
    · refine rj_aload_n 0 dX4_countLost_10 rfl rfl ?_
      refine rj_getR (C0 := RX4) (T := TX4) (N := 4) (j := 3) (r := 7) dX4_countLost_11 rfl vX4_countLost_4 rfl (rj_lt hω (k := 3) rfl) (rj_sh hω ly_3) (by decide) kX4_countLost_22 rfl ?_
      refine rj_iload_n 2 dX4_countLost_14 rfl rfl ?_
      refine rj_iald dX4_countLost_15 rfl (rj_lt hω (k := 7) rfl) (rj_sh hω ly_7) (vp_in_nI hl4 (rj_bl rfl)) ?_
      refine rj_iconst (v := (-1)) dX4_countLost_16 rfl (by decide) ?_
      refine rj_icmp_eq dX4_countLost_17 rfl rfl (fun h2 => ?_) (fun h2 => ?_)
      · refine rj_iinc (v := nI (j4 + 1)) (l' := [(2, .int (nI (j4 + 1))), (0, .ref (ω.2.2 3)), (1, .int s4)]) 2 dX4_countLost_23 rfl rfl (nI_succ j4).symm (rj_bl rfl) rfl ?_
        refine rj_goto dX4_countLost_26 rfl ?_
        have e : bX4_countLost_4 μ j4 s4 = s4 := by unfold bX4_countLost_4; rw [if_pos h2]; try rfl
        exact rj_sub (l' := [(0, .ref (ω.2.2 3)), (1, .int s4), (2, .int (nI (j4 + 1)))]) [1, 2, 0] rfl (ih (j4 + 1) s4 (by omega) (by rw [rj_fo_s, e] at K; exact K))
      · refine rj_iinc (v := s4 + 1) (l' := [(1, .int (s4 + 1)), (0, .ref (ω.2.2 3)), (2, .int (nI j4))]) 1 dX4_countLost_20 rfl rfl rfl (rj_bl rfl) rfl ?_
        refine rj_iinc (v := nI (j4 + 1)) (l' := [(2, .int (nI (j4 + 1))), (1, .int (s4 + 1)), (0, .ref (ω.2.2 3))]) 2 dX4_countLost_23 rfl rfl (nI_succ j4).symm (rj_bl rfl) rfl ?_
        refine rj_goto dX4_countLost_26 rfl ?_
        have e : bX4_countLost_4 μ j4 s4 = (s4 + 1) := by unfold bX4_countLost_4; rw [if_neg h2]; try rfl
        exact rj_sub (l' := [(0, .ref (ω.2.2 3)), (1, .int (s4 + 1)), (2, .int (nI (j4 + 1)))]) [2, 1, 0] rfl (ih (j4 + 1) (s4 + 1) (by omega) (by rw [rj_fo_s, e] at K; exact K))
def fX4_countLost (μ : rj_M) : Int32 := (rj_fo (bX4_countLost_4 μ) 100 0 0)
set_option maxHeartbeats 4000000 in
set_option maxRecDepth 100000 in
theorem sX4_countLost {g : rj_G} {ω : rj_W} (hω : rj_ok ω) (μ : rj_M)   : rj_Sp g yX4_countLost wsX4_countLost (rj_rm 0 0) [.ref (ω.2.2 3)] ω μ (rj_D (.inl (some (.int (fX4_countLost μ)))) ω μ) := by
  refine rj_of' (cc := cX4_countLost) (nL := 3) (ret := (some .int)) (own := RX4) (l0 := [(0, .ref (ω.2.2 3))]) rfl (by decide +kernel) rfl (Nat.le_of_ble_eq_true rfl) rfl ?_
  refine rj_iconst (v := 0) dX4_countLost_0 rfl (by decide) ?_
  refine rj_istore_n (l' := [(1, .int 0), (0, .ref (ω.2.2 3))]) dX4_countLost_1 rfl (rj_bl rfl) rfl ?_
  refine rj_iconst (v := 0) dX4_countLost_2 rfl (by decide) ?_
  refine rj_istore_n (l' := [(2, .int 0), (1, .int 0), (0, .ref (ω.2.2 3))]) dX4_countLost_3 rfl (rj_bl rfl) rfl ?_
  refine rj_sub (l' := [(0, .ref (ω.2.2 3)), (1, .int 0), (2, .int (nI 0))]) [2, 1, 0] rfl ?_
  refine lX4_countLost_4 hω μ     100 0 0 rfl ?_
  refine rj_iload_n 1 dX4_countLost_29 rfl rfl ?_
  exact rj_iret dX4_countLost_30 rfl (Nat.le_of_ble_eq_true rfl) (Nat.le_of_ble_eq_true rfl) ⟨(by unfold fX4_countLost; rfl), rfl, rfl⟩
theorem hSX4_firstLost : yX4_firstLost.cls ≠ "java/lang/invoke/MethodHandle" ∧ yX4_firstLost.cls ≠ "java/lang/invoke/VarHandle" ∧ (parseMethodDescriptor yX4_firstLost.desc).map (fun d => d.parameters.length) = some 1 := by decide +kernel
theorem hVX4_firstLost : yX4_firstLost.cls = RX4 ∧ yX4_firstLost.cls ≠ "java/lang/invoke/MethodHandle" ∧ yX4_firstLost.cls ≠ "java/lang/invoke/VarHandle" ∧ (parseMethodDescriptor yX4_firstLost.desc).map (fun d => d.parameters.length) = some 1 := by decide +kernel
theorem vX4_firstLost_4 : ∀ w ∈ u_ws RX4 TX4 4, w ∈ wsX4_firstLost := by decide +kernel
theorem kX4_firstLost_22 : Cond.fieldLink RX4 22 (TX4 3).1 (TX4 3).2.1 (TX4 3).2.2.1 ∈ wsX4_firstLost := by decide +kernel
def bX4_firstLost_2 (μ : rj_M) (a0 : Int32) (j2 : Nat) (s2 : Unit) : Unit ⊕ Int32 := (if (μ.1 7 (nI j2).toNatClampNeg) = (-1) then .inl () else (if a0 = (-1) then .inr (nI j2) else (if (μ.1 7 (nI j2).toNatClampNeg) = a0 then .inr (nI j2) else .inl ())))
set_option maxHeartbeats 4000000 in
set_option maxRecDepth 100000 in
theorem lX4_firstLost_2 {g : rj_G} {ω : rj_W} (hω : rj_ok ω) (μ : rj_M) (a0 : Int32)     {P : rj_P} : ∀ (r j : Nat) (s : Unit), j + r = 100 → (∀ z : Unit, rj_ix (bX4_firstLost_2 μ a0) r j s = .inl z → rj_R g RX4 cX4_firstLost 3 (some .int) wsX4_firstLost [] (rj_rm 0 0) (rj_E g (rj_rm 0 0) P) 0 ω μ [(0, .ref (ω.2.2 3)), (1, .int a0), (2, .int (nI 100))] 41 []) → (∀ z : Int32, rj_ix (bX4_firstLost_2 μ a0) r j s = .inr z → P (.inl (some (.int z))) ω μ) → rj_R g RX4 cX4_firstLost 3 (some .int) wsX4_firstLost [] (rj_rm 0 0) (rj_E g (rj_rm 0 0) P) 0 ω μ [(0, .ref (ω.2.2 3)), (1, .int a0), (2, .int (nI j))] 2 [] := by
  intro r
  induction r with
  | zero =>
    intro j s hj K K2
    have e0 : j = 100 := by omega
    have hge : 100 ≤ nI j := by
      rw [e0]
      exact Int32.le_refl _
    refine rj_iload_n 2 dX4_firstLost_2 rfl rfl ?_
    refine rj_bipush (v := 100) dX4_firstLost_3 rfl (by decide) ?_
    refine rj_icmp_ge dX4_firstLost_5 rfl rfl (fun h5 => ?_) (fun h5 => ?_)
    · have e1 : nI j = nI 100 := by rw [e0]
      rw [e1]
      exact K s rfl
    · exact absurd hge h5
  | succ r ih =>
    intro j2 s2 hj K K2
    have hl2 : j2 < 100 := by omega
    have hg2 : ¬ 100 ≤ nI j2 := nI_ge hl2 (rj_bl rfl)
    refine rj_iload_n 2 dX4_firstLost_2 rfl rfl ?_
    refine rj_bipush (v := 100) dX4_firstLost_3 rfl (by decide) ?_
    refine rj_icmp_ge dX4_firstLost_5 rfl rfl (fun h1 => ?_) (fun h1 => ?_)
    · exact absurd h1 hg2
    · refine rj_aload_n 0 dX4_firstLost_8 rfl rfl ?_
      refine rj_getR (C0 := RX4) (T := TX4) (N := 4) (j := 3) (r := 7) dX4_firstLost_9 rfl vX4_firstLost_4 rfl (rj_lt hω (k := 3) rfl) (rj_sh hω ly_3) (by decide) kX4_firstLost_22 rfl ?_
      refine rj_iload_n 2 dX4_firstLost_12 rfl rfl ?_
      refine rj_iald dX4_firstLost_13 rfl (rj_lt hω (k := 7) rfl) (rj_sh hω ly_7) (vp_in_nI hl2 (rj_bl rfl)) ?_
      refine rj_iconst (v := (-1)) dX4_firstLost_14 rfl (by decide) ?_
      refine rj_icmp_eq dX4_firstLost_15 rfl rfl (fun h2 => ?_) (fun h2 => ?_)
      · refine rj_iinc (v := nI (j2 + 1)) (l' := [(2, .int (nI (j2 + 1))), (0, .ref (ω.2.2 3)), (1, .int a0)]) 2 dX4_firstLost_35 rfl rfl (nI_succ j2).symm (rj_bl rfl) rfl ?_
        refine rj_goto dX4_firstLost_38 rfl ?_
        have e : bX4_firstLost_2 μ a0 j2 s2 = .inl () := by unfold bX4_firstLost_2; rw [if_pos h2]; try rfl
        exact rj_sub (l' := [(0, .ref (ω.2.2 3)), (1, .int a0), (2, .int (nI (j2 + 1)))]) [1, 2, 0] rfl (ih (j2 + 1) () (by omega) (fun z hz => K z (by rw [rj_ix_l e]; exact hz)) (fun z hz => K2 z (by rw [rj_ix_l e]; exact hz)))
      · refine rj_iload_n 1 dX4_firstLost_18 rfl rfl ?_
        refine rj_iconst (v := (-1)) dX4_firstLost_19 rfl (by decide) ?_
        refine rj_icmp_eq dX4_firstLost_20 rfl rfl (fun h3 => ?_) (fun h3 => ?_)
        · refine rj_iload_n 2 dX4_firstLost_33 rfl rfl ?_
          have e : bX4_firstLost_2 μ a0 j2 s2 = .inr (nI j2) := by unfold bX4_firstLost_2; rw [if_neg h2]; rw [if_pos h3]; try rfl
          exact rj_iret dX4_firstLost_34 rfl (Nat.le_of_ble_eq_true rfl) (Nat.le_of_ble_eq_true rfl) (K2 (nI j2) (rj_ix_r e))
        · refine rj_aload_n 0 dX4_firstLost_23 rfl rfl ?_
          refine rj_getR (C0 := RX4) (T := TX4) (N := 4) (j := 3) (r := 7) dX4_firstLost_24 rfl vX4_firstLost_4 rfl (rj_lt hω (k := 3) rfl) (rj_sh hω ly_3) (by decide) kX4_firstLost_22 rfl ?_
          refine rj_iload_n 2 dX4_firstLost_27 rfl rfl ?_
          refine rj_iald dX4_firstLost_28 rfl (rj_lt hω (k := 7) rfl) (rj_sh hω ly_7) (vp_in_nI hl2 (rj_bl rfl)) ?_
          refine rj_iload_n 1 dX4_firstLost_29 rfl rfl ?_
          refine rj_icmp_ne dX4_firstLost_30 rfl rfl (fun h4 => ?_) (fun h4 => ?_)
          · refine rj_iinc (v := nI (j2 + 1)) (l' := [(2, .int (nI (j2 + 1))), (0, .ref (ω.2.2 3)), (1, .int a0)]) 2 dX4_firstLost_35 rfl rfl (nI_succ j2).symm (rj_bl rfl) rfl ?_
            refine rj_goto dX4_firstLost_38 rfl ?_
            have e : bX4_firstLost_2 μ a0 j2 s2 = .inl () := by unfold bX4_firstLost_2; rw [if_neg h2]; rw [if_neg h3]; rw [if_neg h4]; try rfl
            exact rj_sub (l' := [(0, .ref (ω.2.2 3)), (1, .int a0), (2, .int (nI (j2 + 1)))]) [1, 2, 0] rfl (ih (j2 + 1) () (by omega) (fun z hz => K z (by rw [rj_ix_l e]; exact hz)) (fun z hz => K2 z (by rw [rj_ix_l e]; exact hz)))
          · refine rj_iload_n 2 dX4_firstLost_33 rfl rfl ?_
            have e : bX4_firstLost_2 μ a0 j2 s2 = .inr (nI j2) := by unfold bX4_firstLost_2; rw [if_neg h2]; rw [if_neg h3]; rw [if_pos h4]; try rfl
            exact rj_iret dX4_firstLost_34 rfl (Nat.le_of_ble_eq_true rfl) (Nat.le_of_ble_eq_true rfl) (K2 (nI j2) (rj_ix_r e))
def fX4_firstLost (μ : rj_M) (a0 : Int32) : Int32 := (Sum.elim (fun z2 => (-1)) (fun w2 => w2) (rj_ix (bX4_firstLost_2 μ a0) 100 0 ()))
set_option maxHeartbeats 4000000 in
set_option maxRecDepth 100000 in
theorem sX4_firstLost {g : rj_G} {ω : rj_W} (hω : rj_ok ω) (μ : rj_M) (a0 : Int32)   : rj_Sp g yX4_firstLost wsX4_firstLost (rj_rm 0 0) [.ref (ω.2.2 3), .int a0] ω μ (rj_D (.inl (some (.int (fX4_firstLost μ a0)))) ω μ) := by
  refine rj_of' (cc := cX4_firstLost) (nL := 3) (ret := (some .int)) (own := RX4) (l0 := [(0, .ref (ω.2.2 3)), (1, .int a0)]) rfl (by decide +kernel) rfl (Nat.le_of_ble_eq_true rfl) rfl ?_
  refine rj_iconst (v := 0) dX4_firstLost_0 rfl (by decide) ?_
  refine rj_istore_n (l' := [(2, .int 0), (0, .ref (ω.2.2 3)), (1, .int a0)]) dX4_firstLost_1 rfl (rj_bl rfl) rfl ?_
  refine rj_sub (l' := [(0, .ref (ω.2.2 3)), (1, .int a0), (2, .int (nI 0))]) [1, 2, 0] rfl ?_
  refine lX4_firstLost_2 hω μ a0     100 0 () rfl (fun z2 hz2 => ?_) (fun w2 hw2 => ?_)
  · refine rj_iconst (v := (-1)) dX4_firstLost_41 rfl (by decide) ?_
    exact rj_iret dX4_firstLost_42 rfl (Nat.le_of_ble_eq_true rfl) (Nat.le_of_ble_eq_true rfl) ⟨(by unfold fX4_firstLost; rw [hz2]; simp only [Sum.elim_inl]; try rfl), rfl, rfl⟩
  · exact ⟨(by unfold fX4_firstLost; rw [hw2]; simp only [Sum.elim_inr]; try rfl), rfl, rfl⟩
