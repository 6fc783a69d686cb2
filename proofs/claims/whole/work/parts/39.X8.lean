theorem hSX8_isTicket : yX8_isTicket.cls ≠ "java/lang/invoke/MethodHandle" ∧ yX8_isTicket.cls ≠ "java/lang/invoke/VarHandle" ∧ (parseMethodDescriptor yX8_isTicket.desc).map (fun d => d.parameters.length) = some 2 := by decide +kernel
theorem hVX8_isTicket : yX8_isTicket.cls = RX8 ∧ yX8_isTicket.cls ≠ "java/lang/invoke/MethodHandle" ∧ yX8_isTicket.cls ≠ "java/lang/invoke/VarHandle" ∧ (parseMethodDescriptor yX8_isTicket.desc).map (fun d => d.parameters.length) = some 2 := by decide +kernel
def fX8_isTicket (μ : rj_M) (a0 : Int32) (a1 : Int32) : Int32 := (if a0 < 0 then 0 else (if 12 ≤ a0 then 0 else (if a1 < 0 then 0 else (if 4 ≤ a1 then 0 else 1))))
set_option maxHeartbeats 4000000 in
set_option maxRecDepth 100000 in
theorem sX8_isTicket {g : rj_G} {ω : rj_W} (hω : rj_ok ω) (μ : rj_M) (a0 : Int32) (a1 : Int32)   : rj_Sp g yX8_isTicket wsX8_isTicket (rj_rm 0 0) [.int a0, .int a1] ω μ (rj_D (.inl (some (.int (fX8_isTicket μ a0 a1)))) ω μ) := by
  refine rj_of' (cc := cX8_isTicket) (nL := 2) (ret := (some .boolean)) (own := RX8) (l0 := [(0, .int a0), (1, .int a1)]) rfl (by decide +kernel) rfl (Nat.le_of_ble_eq_true rfl) rfl ?_
  refine rj_iload_n 0 dX8_isTicket_0 rfl rfl ?_
  refine rj_if_lt dX8_isTicket_1 rfl rfl (fun h1 => ?_) (fun h1 => ?_)
  · refine rj_iconst (v := 0) dX8_isTicket_23 rfl (by decide) ?_
    exact rj_zret dX8_isTicket_24 rfl rfl (Nat.le_of_ble_eq_true rfl) (Nat.le_of_ble_eq_true rfl) ⟨(by unfold fX8_isTicket; rw [if_pos h1]; try rfl), rfl, rfl⟩
  · refine rj_iload_n 0 dX8_isTicket_4 rfl rfl ?_
    refine rj_bipush (v := 12) dX8_isTicket_5 rfl (by decide) ?_
    refine rj_icmp_ge dX8_isTicket_7 rfl rfl (fun h2 => ?_) (fun h2 => ?_)
    · refine rj_iconst (v := 0) dX8_isTicket_23 rfl (by decide) ?_
      exact rj_zret dX8_isTicket_24 rfl rfl (Nat.le_of_ble_eq_true rfl) (Nat.le_of_ble_eq_true rfl) ⟨(by unfold fX8_isTicket; rw [if_neg h1]; rw [if_pos h2]; try rfl), rfl, rfl⟩
    · refine rj_iload_n 1 dX8_isTicket_10 rfl rfl ?_
      refine rj_if_lt dX8_isTicket_11 rfl rfl (fun h3 => ?_) (fun h3 => ?_)
      · refine rj_iconst (v := 0) dX8_isTicket_23 rfl (by decide) ?_
        exact rj_zret dX8_isTicket_24 rfl rfl (Nat.le_of_ble_eq_true rfl) (Nat.le_of_ble_eq_true rfl) ⟨(by unfold fX8_isTicket; rw [if_neg h1]; rw [if_neg h2]; rw [if_pos h3]; try rfl), rfl, rfl⟩
      · refine rj_iload_n 1 dX8_isTicket_14 rfl rfl ?_
        refine rj_iconst (v := 4) dX8_isTicket_15 rfl (by decide) ?_
        refine rj_icmp_ge dX8_isTicket_16 rfl rfl (fun h4 => ?_) (fun h4 => ?_)
        · refine rj_iconst (v := 0) dX8_isTicket_23 rfl (by decide) ?_
          exact rj_zret dX8_isTicket_24 rfl rfl (Nat.le_of_ble_eq_true rfl) (Nat.le_of_ble_eq_true rfl) ⟨(by unfold fX8_isTicket; rw [if_neg h1]; rw [if_neg h2]; rw [if_neg h3]; rw [if_pos h4]; try rfl), rfl, rfl⟩
        · refine rj_iconst (v := 1) dX8_isTicket_19 rfl (by decide) ?_
          refine rj_goto dX8_isTicket_20 rfl ?_
          exact rj_zret dX8_isTicket_24 rfl rfl (Nat.le_of_ble_eq_true rfl) (Nat.le_of_ble_eq_true rfl) ⟨(by unfold fX8_isTicket; rw [if_neg h1]; rw [if_neg h2]; rw [if_neg h3]; rw [if_neg h4]; try rfl), rfl, rfl⟩
theorem nX8_isTicket (μ : rj_M) (a0 : Int32) (a1 : Int32) : narrow .boolean (.int (fX8_isTicket μ a0 a1)) = .int (fX8_isTicket μ a0 a1) := by
  unfold fX8_isTicket
  split
  · rfl
  · split
    · rfl
    · split
      · rfl
      · split
        · rfl
        · rfl
theorem rj_tkin {μ : rj_M} {a b : Int32} (h : ¬ (fX8_isTicket μ a b) = 0) : vp_in ((a * 4) + b) 48 := by
  unfold fX8_isTicket at h
  by_cases h1 : a < 0
  · rw [if_pos h1] at h; exact absurd rfl h
  rw [if_neg h1] at h
  by_cases h2 : 12 ≤ a
  · rw [if_pos h2] at h; exact absurd rfl h
  rw [if_neg h2] at h
  by_cases h3 : b < 0
  · rw [if_pos h3] at h; exact absurd rfl h
  rw [if_neg h3] at h
  by_cases h4 : 4 ≤ b
  · rw [if_pos h4] at h; exact absurd rfl h
  obtain ⟨i, hi, rfl⟩ := vp_in_of (rj_in h1 h2 (n := 12) rfl) (rj_bl rfl)
  obtain ⟨j, hj, rfl⟩ := vp_in_of (rj_in h3 h4 (n := 4) rfl) (rj_bl rfl)
  rw [show (nI i * 4 : Int32) = nI (i * 4) from pk_mul i 4, nI_add]
  exact vp_in_nI (by omega) (rj_bl rfl)
theorem rj_tkin1 {μ : rj_M} {a b : Int32} (h : ¬ (fX8_isTicket μ a b) = 0) : vp_in a 12 := by
  unfold fX8_isTicket at h
  by_cases h1 : a < 0
  · rw [if_pos h1] at h; exact absurd rfl h
  rw [if_neg h1] at h
  by_cases h2 : 12 ≤ a
  · rw [if_pos h2] at h; exact absurd rfl h
  exact rj_in h1 h2 rfl
theorem hSX8_hasTicket : yX8_hasTicket.cls ≠ "java/lang/invoke/MethodHandle" ∧ yX8_hasTicket.cls ≠ "java/lang/invoke/VarHandle" ∧ (parseMethodDescriptor yX8_hasTicket.desc).map (fun d => d.parameters.length) = some 2 := by decide +kernel
theorem hVX8_hasTicket : yX8_hasTicket.cls = RX8 ∧ yX8_hasTicket.cls ≠ "java/lang/invoke/MethodHandle" ∧ yX8_hasTicket.cls ≠ "java/lang/invoke/VarHandle" ∧ (parseMethodDescriptor yX8_hasTicket.desc).map (fun d => d.parameters.length) = some 2 := by decide +kernel
theorem vX8_hasTicket_8 : ∀ w ∈ u_ws RX8 TX8 5, w ∈ wsX8_hasTicket := by decide +kernel
theorem kX8_hasTicket_15 : Cond.fieldLink RX8 15 (TX8 1).1 (TX8 1).2.1 (TX8 1).2.2.1 ∈ wsX8_hasTicket := by decide +kernel
def fX8_hasTicket (μ : rj_M) (a0 : Int32) (a1 : Int32) : Int32 := (if (fX8_isTicket μ a0 a1) = 0 then 0 else (if (μ.1 41 ((a0 * 4) + a1).toNatClampNeg) = (-1) then 0 else 1))
set_option maxHeartbeats 4000000 in
set_option maxRecDepth 100000 in
theorem sX8_hasTicket {g : rj_G} {ω : rj_W} (hω : rj_ok ω) (μ : rj_M) (a0 : Int32) (a1 : Int32)   : rj_Sp g yX8_hasTicket wsX8_hasTicket (rj_rm 1 0) [.ref (ω.2.2 39), .int a0, .int a1] ω μ (rj_D (.inl (some (.int (fX8_hasTicket μ a0 a1)))) ω μ) := by
  refine rj_of' (cc := cX8_hasTicket) (nL := 3) (ret := (some .boolean)) (own := RX8) (l0 := [(0, .ref (ω.2.2 39)), (1, .int a0), (2, .int a1)]) rfl (by decide +kernel) rfl (Nat.le_of_ble_eq_true rfl) rfl ?_
  refine rj_iload_n 1 dX8_hasTicket_0 rfl rfl ?_
  refine rj_iload_n 2 dX8_hasTicket_1 rfl rfl ?_
  refine rj_cS (rest := []) (sX8_isTicket (g := g) (ω := ω) hω μ a0 a1   ) gX8_hasTicket_X8_isTicket rfl hSX8_isTicket ⟨Nat.le_of_ble_eq_true rfl, Nat.le_of_ble_eq_true rfl⟩ dX8_hasTicket_2 rfl rfl rfl (Nat.le_of_ble_eq_true rfl) rfl (Nat.le_of_ble_eq_true rfl) rfl ?_
  refine rj_if_eq dX8_hasTicket_5 rfl rfl (fun h1 => ?_) (fun h1 => ?_)
  · refine rj_iconst (v := 0) dX8_hasTicket_26 rfl (by decide) ?_
    exact rj_zret dX8_hasTicket_27 rfl rfl (Nat.le_of_ble_eq_true rfl) (Nat.le_of_ble_eq_true rfl) ⟨(by unfold fX8_hasTicket; rw [if_pos h1]; try rfl), rfl, rfl⟩
  · refine rj_aload_n 0 dX8_hasTicket_8 rfl rfl ?_
    refine rj_getR (C0 := RX8) (T := TX8) (N := 5) (j := 1) (r := 41) dX8_hasTicket_9 rfl vX8_hasTicket_8 rfl (rj_lt hω (k := 39) rfl) (rj_sh hω ly_39) (by decide) kX8_hasTicket_15 rfl ?_
    refine rj_iload_n 1 dX8_hasTicket_12 rfl rfl ?_
    refine rj_iconst (v := 4) dX8_hasTicket_13 rfl (by decide) ?_
    refine rj_imul dX8_hasTicket_14 rfl ?_
    refine rj_iload_n 2 dX8_hasTicket_15 rfl rfl ?_
    refine rj_iadd dX8_hasTicket_16 rfl ?_
    refine rj_iald dX8_hasTicket_17 rfl (rj_lt hω (k := 41) rfl) (rj_sh hω ly_41) (rj_tkin h1) ?_
    refine rj_iconst (v := (-1)) dX8_hasTicket_18 rfl (by decide) ?_
    refine rj_icmp_eq dX8_hasTicket_19 rfl rfl (fun h2 => ?_) (fun h2 => ?_)
    · refine rj_iconst (v := 0) dX8_hasTicket_26 rfl (by decide) ?_
      exact rj_zret dX8_hasTicket_27 rfl rfl (Nat.le_of_ble_eq_true rfl) (Nat.le_of_ble_eq_true rfl) ⟨(by unfold fX8_hasTicket; rw [if_neg h1]; rw [if_pos h2]; try rfl), rfl, rfl⟩
    · refine rj_iconst (v := 1) dX8_hasTicket_22 rfl (by decide) ?_
      refine rj_goto dX8_hasTicket_23 rfl ?_
      exact rj_zret dX8_hasTicket_27 rfl rfl (Nat.le_of_ble_eq_true rfl) (Nat.le_of_ble_eq_true rfl) ⟨(by unfold fX8_hasTicket; rw [if_neg h1]; rw [if_neg h2]; try rfl), rfl, rfl⟩
theorem nX8_hasTicket (μ : rj_M) (a0 : Int32) (a1 : Int32) : narrow .boolean (.int (fX8_hasTicket μ a0 a1)) = .int (fX8_hasTicket μ a0 a1) := by
  unfold fX8_hasTicket
  split
  · rfl
  · split
    · rfl
    · rfl
theorem hSX8_coinsFor : yX8_coinsFor.cls ≠ "java/lang/invoke/MethodHandle" ∧ yX8_coinsFor.cls ≠ "java/lang/invoke/VarHandle" ∧ (parseMethodDescriptor yX8_coinsFor.desc).map (fun d => d.parameters.length) = some 2 := by decide +kernel
theorem hVX8_coinsFor : yX8_coinsFor.cls = RX8 ∧ yX8_coinsFor.cls ≠ "java/lang/invoke/MethodHandle" ∧ yX8_coinsFor.cls ≠ "java/lang/invoke/VarHandle" ∧ (parseMethodDescriptor yX8_coinsFor.desc).map (fun d => d.parameters.length) = some 2 := by decide +kernel
theorem vX8_coinsFor_8 : ∀ w ∈ u_ws RX8 TX8 5, w ∈ wsX8_coinsFor := by decide +kernel
theorem kX8_coinsFor_9 : Cond.fieldLink RX8 9 (TX8 0).1 (TX8 0).2.1 (TX8 0).2.2.1 ∈ wsX8_coinsFor := by decide +kernel
def fX8_coinsFor (μ : rj_M) (a0 : Int32) (a1 : Int32) : Int32 := (if a1 < 6 then 0 else (if a0 < 0 then 0 else (if a0 < 4 then (if 13 < a1 then (if 65 ≤ a1 then ((((μ.1 40 a0.toNatClampNeg) * 4) + 2) / 5) else (μ.1 40 a0.toNatClampNeg)) else (((μ.1 40 a0.toNatClampNeg) + 1) / 2)) else 0)))
set_option maxHeartbeats 4000000 in
set_option maxRecDepth 100000 in
theorem sX8_coinsFor {g : rj_G} {ω : rj_W} (hω : rj_ok ω) (μ : rj_M) (a0 : Int32) (a1 : Int32)   : rj_Sp g yX8_coinsFor wsX8_coinsFor (rj_rm 0 0) [.ref (ω.2.2 39), .int a0, .int a1] ω μ (rj_D (.inl (some (.int (fX8_coinsFor μ a0 a1)))) ω μ) := by
  refine rj_of' (cc := cX8_coinsFor) (nL := 3) (ret := (some .int)) (own := RX8) (l0 := [(0, .ref (ω.2.2 39)), (1, .int a0), (2, .int a1)]) rfl (by decide +kernel) rfl (Nat.le_of_ble_eq_true rfl) rfl ?_
  refine rj_iload_n 2 dX8_coinsFor_0 rfl rfl ?_
  refine rj_bipush (v := 6) dX8_coinsFor_1 rfl (by decide) ?_
  refine rj_icmp_lt dX8_coinsFor_3 rfl rfl (fun h1 => ?_) (fun h1 => ?_)
  · refine rj_iconst (v := 0) dX8_coinsFor_15 rfl (by decide) ?_
    exact rj_iret dX8_coinsFor_16 rfl (Nat.le_of_ble_eq_true rfl) (Nat.le_of_ble_eq_true rfl) ⟨(by unfold fX8_coinsFor; rw [if_pos h1]; try rfl), rfl, rfl⟩
  · refine rj_iload_n 1 dX8_coinsFor_6 rfl rfl ?_
    refine rj_if_lt dX8_coinsFor_7 rfl rfl (fun h2 => ?_) (fun h2 => ?_)
    · refine rj_iconst (v := 0) dX8_coinsFor_15 rfl (by decide) ?_
      exact rj_iret dX8_coinsFor_16 rfl (Nat.le_of_ble_eq_true rfl) (Nat.le_of_ble_eq_true rfl) ⟨(by unfold fX8_coinsFor; rw [if_neg h1]; rw [if_pos h2]; try rfl), rfl, rfl⟩
    · refine rj_iload_n 1 dX8_coinsFor_10 rfl rfl ?_
      refine rj_iconst (v := 4) dX8_coinsFor_11 rfl (by decide) ?_
      refine rj_icmp_lt dX8_coinsFor_12 rfl rfl (fun h3 => ?_) (fun h3 => ?_)
      · refine rj_iload_n 2 dX8_coinsFor_17 rfl rfl ?_
        refine rj_bipush (v := 13) dX8_coinsFor_18 rfl (by decide) ?_
        refine rj_icmp_gt dX8_coinsFor_20 rfl rfl (fun h4 => ?_) (fun h4 => ?_)
        · refine rj_iload_n 2 dX8_coinsFor_34 rfl rfl ?_
          refine rj_bipush (v := 65) dX8_coinsFor_35 rfl (by decide) ?_
          refine rj_icmp_ge dX8_coinsFor_37 rfl rfl (fun h5 => ?_) (fun h5 => ?_)
          · refine rj_aload_n 0 dX8_coinsFor_49 rfl rfl ?_
            refine rj_getR (C0 := RX8) (T := TX8) (N := 5) (j := 0) (r := 40) dX8_coinsFor_50 rfl vX8_coinsFor_8 rfl (rj_lt hω (k := 39) rfl) (rj_sh hω ly_39) (by decide) kX8_coinsFor_9 rfl ?_
            refine rj_iload_n 1 dX8_coinsFor_53 rfl rfl ?_
            refine rj_iald dX8_coinsFor_54 rfl (rj_lt hω (k := 40) rfl) (rj_sh hω ly_40) (rj_in h2 (Int32.not_le.mpr h3) rfl) ?_
            refine rj_iconst (v := 4) dX8_coinsFor_55 rfl (by decide) ?_
            refine rj_imul dX8_coinsFor_56 rfl ?_
            refine rj_iconst (v := 2) dX8_coinsFor_57 rfl (by decide) ?_
            refine rj_iadd dX8_coinsFor_58 rfl ?_
            refine rj_iconst (v := 5) dX8_coinsFor_59 rfl (by decide) ?_
            refine rj_idiv dX8_coinsFor_60 rfl (by decide) ?_
            exact rj_iret dX8_coinsFor_61 rfl (Nat.le_of_ble_eq_true rfl) (Nat.le_of_ble_eq_true rfl) ⟨(by unfold fX8_coinsFor; rw [if_neg h1]; rw [if_neg h2]; rw [if_pos h3]; rw [if_pos h4]; rw [if_pos h5]; try rfl), rfl, rfl⟩
          · refine rj_aload_n 0 dX8_coinsFor_40 rfl rfl ?_
            refine rj_getR (C0 := RX8) (T := TX8) (N := 5) (j := 0) (r := 40) dX8_coinsFor_41 rfl vX8_coinsFor_8 rfl (rj_lt hω (k := 39) rfl) (rj_sh hω ly_39) (by decide) kX8_coinsFor_9 rfl ?_
            refine rj_iload_n 1 dX8_coinsFor_44 rfl rfl ?_
            refine rj_iald dX8_coinsFor_45 rfl (rj_lt hω (k := 40) rfl) (rj_sh hω ly_40) (rj_in h2 (Int32.not_le.mpr h3) rfl) ?_
            refine rj_goto dX8_coinsFor_46 rfl ?_
            exact rj_iret dX8_coinsFor_61 rfl (Nat.le_of_ble_eq_true rfl) (Nat.le_of_ble_eq_true rfl) ⟨(by unfold fX8_coinsFor; rw [if_neg h1]; rw [if_neg h2]; rw [if_pos h3]; rw [if_pos h4]; rw [if_neg h5]; try rfl), rfl, rfl⟩
        · refine rj_aload_n 0 dX8_coinsFor_23 rfl rfl ?_
          refine rj_getR (C0 := RX8) (T := TX8) (N := 5) (j := 0) (r := 40) dX8_coinsFor_24 rfl vX8_coinsFor_8 rfl (rj_lt hω (k := 39) rfl) (rj_sh hω ly_39) (by decide) kX8_coinsFor_9 rfl ?_
          refine rj_iload_n 1 dX8_coinsFor_27 rfl rfl ?_
          refine rj_iald dX8_coinsFor_28 rfl (rj_lt hω (k := 40) rfl) (rj_sh hω ly_40) (rj_in h2 (Int32.not_le.mpr h3) rfl) ?_
          refine rj_iconst (v := 1) dX8_coinsFor_29 rfl (by decide) ?_
          refine rj_iadd dX8_coinsFor_30 rfl ?_
          refine rj_iconst (v := 2) dX8_coinsFor_31 rfl (by decide) ?_
          refine rj_idiv dX8_coinsFor_32 rfl (by decide) ?_
          exact rj_iret dX8_coinsFor_33 rfl (Nat.le_of_ble_eq_true rfl) (Nat.le_of_ble_eq_true rfl) ⟨(by unfold fX8_coinsFor; rw [if_neg h1]; rw [if_neg h2]; rw [if_pos h3]; rw [if_neg h4]; try rfl), rfl, rfl⟩
      · refine rj_iconst (v := 0) dX8_coinsFor_15 rfl (by decide) ?_
        exact rj_iret dX8_coinsFor_16 rfl (Nat.le_of_ble_eq_true rfl) (Nat.le_of_ble_eq_true rfl) ⟨(by unfold fX8_coinsFor; rw [if_neg h1]; rw [if_neg h2]; rw [if_neg h3]; try rfl), rfl, rfl⟩
theorem hSX8_sell : yX8_sell.cls ≠ "java/lang/invoke/MethodHandle" ∧ yX8_sell.cls ≠ "java/lang/invoke/VarHandle" ∧ (parseMethodDescriptor yX8_sell.desc).map (fun d => d.parameters.length) = some 3 := by decide +kernel
theorem hVX8_sell : yX8_sell.cls = RX8 ∧ yX8_sell.cls ≠ "java/lang/invoke/MethodHandle" ∧ yX8_sell.cls ≠ "java/lang/invoke/VarHandle" ∧ (parseMethodDescriptor yX8_sell.desc).map (fun d => d.parameters.length) = some 3 := by decide +kernel
theorem vX8_sell_8 : ∀ w ∈ u_ws RX8 TX8 5, w ∈ wsX8_sell := by decide +kernel
theorem kX8_sell_15 : Cond.fieldLink RX8 15 (TX8 1).1 (TX8 1).2.1 (TX8 1).2.2.1 ∈ wsX8_sell := by decide +kernel
theorem kX8_sell_22 : Cond.fieldLink RX8 22 (TX8 3).1 (TX8 3).2.1 (TX8 3).2.2.1 ∈ wsX8_sell := by decide +kernel
theorem kX8_sell_18 : Cond.fieldLink RX8 18 (TX8 2).1 (TX8 2).2.1 (TX8 2).2.2.1 ∈ wsX8_sell := by decide +kernel
def fX8_sell (μ : rj_M) (a0 : Int32) (a1 : Int32) (a2 : Int32) : Int32 := (if (fX8_isTicket μ a0 a1) = 0 then (fX8_coinsFor μ a1 a2) else (fX8_coinsFor μ a1 a2))
def mX8_sell (μ : rj_M) (a0 : Int32) (a1 : Int32) (a2 : Int32) : rj_M := (if (fX8_isTicket μ a0 a1) = 0 then μ else (rj_pl (rj_pl (rj_pi μ 41 ((a0 * 4) + a1).toNatClampNeg (fX8_coinsFor μ a1 a2)) 42 a0.toNatClampNeg (((rj_pi μ 41 ((a0 * 4) + a1).toNatClampNeg (fX8_coinsFor μ a1 a2)).2.1 42 a0.toNatClampNeg) - ((fX8_coinsFor μ a1 a2).toInt64))) 39 2 (((rj_pl (rj_pi μ 41 ((a0 * 4) + a1).toNatClampNeg (fX8_coinsFor μ a1 a2)) 42 a0.toNatClampNeg (((rj_pi μ 41 ((a0 * 4) + a1).toNatClampNeg (fX8_coinsFor μ a1 a2)).2.1 42 a0.toNatClampNeg) - ((fX8_coinsFor μ a1 a2).toInt64))).2.1 39 2) + ((fX8_coinsFor μ a1 a2).toInt64))))
set_option maxHeartbeats 4000000 in
set_option maxRecDepth 100000 in
theorem sX8_sell {g : rj_G} {ω : rj_W} (hω : rj_ok ω) (μ : rj_M) (a0 : Int32) (a1 : Int32) (a2 : Int32)   : rj_Sp g yX8_sell wsX8_sell (rj_rm 1 0) [.ref (ω.2.2 39), .int a0, .int a1, .int a2] ω μ (rj_D (.inl (some (.int (fX8_sell μ a0 a1 a2)))) ω (mX8_sell μ a0 a1 a2)) := by
  refine rj_of' (cc := cX8_sell) (nL := 5) (ret := (some .int)) (own := RX8) (l0 := [(0, .ref (ω.2.2 39)), (1, .int a0), (2, .int a1), (3, .int a2)]) rfl (by decide +kernel) rfl (Nat.le_of_ble_eq_true rfl) rfl ?_
  refine rj_aload_n 0 dX8_sell_0 rfl rfl ?_
  refine rj_iload_n 2 dX8_sell_1 rfl rfl ?_
  refine rj_iload_n 3 dX8_sell_2 rfl rfl ?_
  refine rj_cV (rest := []) (sX8_coinsFor (g := g) (ω := ω) hω μ a1 a2   ) gX8_sell_X8_coinsFor (rj_lt hω (k := 39) rfl) (rj_sh hω ly_39) rfl rfl hVX8_coinsFor ⟨Nat.le_of_ble_eq_true rfl, Nat.le_of_ble_eq_true rfl⟩ dX8_sell_3 rfl rfl rfl (Nat.le_of_ble_eq_true rfl) rfl (Nat.le_of_ble_eq_true rfl) rfl ?_
  refine rj_istore (l' := [(4, .int (fX8_coinsFor μ a1 a2)), (0, .ref (ω.2.2 39)), (1, .int a0), (2, .int a1), (3, .int a2)]) dX8_sell_6 rfl (rj_bl rfl) rfl ?_
  refine rj_iload_n 2 dX8_sell_8 rfl rfl ?_
  refine rj_iload_n 3 dX8_sell_9 rfl rfl ?_
  refine rj_cS (rest := []) (sX8_isTicket (g := g) (ω := ω) hω μ a0 a1   ) gX8_sell_X8_isTicket rfl hSX8_isTicket ⟨Nat.le_of_ble_eq_true rfl, Nat.le_of_ble_eq_true rfl⟩ dX8_sell_10 rfl rfl rfl (Nat.le_of_ble_eq_true rfl) rfl (Nat.le_of_ble_eq_true rfl) rfl ?_
  refine rj_if_eq dX8_sell_13 rfl rfl (fun h1 => ?_) (fun h1 => ?_)
  · refine rj_iload 0 dX8_sell_52 rfl rfl ?_
    exact rj_iret dX8_sell_54 rfl (Nat.le_of_ble_eq_true rfl) (Nat.le_of_ble_eq_true rfl) ⟨(by unfold fX8_sell; rw [if_pos h1]; try rfl), rfl, (by unfold mX8_sell; rw [if_pos h1]; try rfl)⟩
  · refine rj_aload_n 1 dX8_sell_16 rfl rfl ?_
    refine rj_getR (C0 := RX8) (T := TX8) (N := 5) (j := 1) (r := 41) dX8_sell_17 rfl vX8_sell_8 rfl (rj_lt hω (k := 39) rfl) (rj_sh hω ly_39) (by decide) kX8_sell_15 rfl ?_
    refine rj_iload_n 2 dX8_sell_20 rfl rfl ?_
    refine rj_iconst (v := 4) dX8_sell_21 rfl (by decide) ?_
    refine rj_imul dX8_sell_22 rfl ?_
    refine rj_iload_n 3 dX8_sell_23 rfl rfl ?_
    refine rj_iadd dX8_sell_24 rfl ?_
    refine rj_iload 0 dX8_sell_25 rfl rfl ?_
    refine rj_iast dX8_sell_27 rfl (rj_lt hω (k := 41) rfl) (rj_sh hω ly_41) (rj_tkin h1) ?_
    refine rj_aload_n 1 dX8_sell_28 rfl rfl ?_
    refine rj_getR (C0 := RX8) (T := TX8) (N := 5) (j := 3) (r := 42) dX8_sell_29 rfl vX8_sell_8 rfl (rj_lt hω (k := 39) rfl) (rj_sh hω ly_39) (by decide) kX8_sell_22 rfl ?_
    refine rj_iload_n 2 dX8_sell_32 rfl rfl ?_
    refine rj_dup2 dX8_sell_33 rfl rfl rfl ?_
    refine rj_lald dX8_sell_34 rfl (rj_lt hω (k := 42) rfl) (rj_sh hω ly_42) (rj_tkin1 h1) ?_
    refine rj_iload 0 dX8_sell_35 rfl rfl ?_
    refine rj_i2l dX8_sell_37 rfl ?_
    refine rj_lsub dX8_sell_38 rfl ?_
    refine rj_last dX8_sell_39 rfl (rj_lt hω (k := 42) rfl) (rj_sh hω ly_42) (rj_tkin1 h1) ?_
    refine rj_aload_n 1 dX8_sell_40 rfl rfl ?_
    refine rj_dup dX8_sell_41 rfl rfl ?_
    refine rj_getL (C0 := RX8) (T := TX8) (N := 5) (j := 2) dX8_sell_42 rfl vX8_sell_8 rfl (rj_lt hω (k := 39) rfl) (rj_sh hω ly_39) (by decide) kX8_sell_18 rfl ?_
    refine rj_iload 0 dX8_sell_45 rfl rfl ?_
    refine rj_i2l dX8_sell_47 rfl ?_
    refine rj_ladd dX8_sell_48 rfl ?_
    refine rj_putL (C0 := RX8) (T := TX8) (N := 5) (j := 2) dX8_sell_49 rfl vX8_sell_8 rfl (rj_lt hω (k := 39) rfl) (rj_sh hω ly_39) (by decide) kX8_sell_18 tyX8 tyX8_ok nmX8 rfl rfl rfl rfl ?_
    refine rj_iload 0 dX8_sell_52 rfl rfl ?_
    exact rj_iret dX8_sell_54 rfl (Nat.le_of_ble_eq_true rfl) (Nat.le_of_ble_eq_true rfl) ⟨(by unfold fX8_sell; rw [if_neg h1]; try rfl), rfl, (by unfold mX8_sell; rw [if_neg h1]; try rfl)⟩
theorem hSX8_takeBack : yX8_takeBack.cls ≠ "java/lang/invoke/MethodHandle" ∧ yX8_takeBack.cls ≠ "java/lang/invoke/VarHandle" ∧ (parseMethodDescriptor yX8_takeBack.desc).map (fun d => d.parameters.length) = some 2 := by decide +kernel
theorem hVX8_takeBack : yX8_takeBack.cls = RX8 ∧ yX8_takeBack.cls ≠ "java/lang/invoke/MethodHandle" ∧ yX8_takeBack.cls ≠ "java/lang/invoke/VarHandle" ∧ (parseMethodDescriptor yX8_takeBack.desc).map (fun d => d.parameters.length) = some 2 := by decide +kernel
theorem vX8_takeBack_8 : ∀ w ∈ u_ws RX8 TX8 5, w ∈ wsX8_takeBack := by decide +kernel
theorem kX8_takeBack_15 : Cond.fieldLink RX8 15 (TX8 1).1 (TX8 1).2.1 (TX8 1).2.2.1 ∈ wsX8_takeBack := by decide +kernel
theorem kX8_takeBack_22 : Cond.fieldLink RX8 22 (TX8 3).1 (TX8 3).2.1 (TX8 3).2.2.1 ∈ wsX8_takeBack := by decide +kernel
theorem kX8_takeBack_18 : Cond.fieldLink RX8 18 (TX8 2).1 (TX8 2).2.1 (TX8 2).2.2.1 ∈ wsX8_takeBack := by decide +kernel
def fX8_takeBack (μ : rj_M) (a0 : Int32) (a1 : Int32) : Int32 := (if (fX8_isTicket μ a0 a1) = 0 then 0 else (((μ.1 41 ((a0 * 4) + a1).toNatClampNeg) * 9) / 10))
def mX8_takeBack (μ : rj_M) (a0 : Int32) (a1 : Int32) : rj_M := (if (fX8_isTicket μ a0 a1) = 0 then μ else (rj_pl (rj_pl (rj_pi μ 41 ((a0 * 4) + a1).toNatClampNeg (-1)) 42 a0.toNatClampNeg (((rj_pi μ 41 ((a0 * 4) + a1).toNatClampNeg (-1)).2.1 42 a0.toNatClampNeg) + ((((μ.1 41 ((a0 * 4) + a1).toNatClampNeg) * 9) / 10).toInt64))) 39 2 (((rj_pl (rj_pi μ 41 ((a0 * 4) + a1).toNatClampNeg (-1)) 42 a0.toNatClampNeg (((rj_pi μ 41 ((a0 * 4) + a1).toNatClampNeg (-1)).2.1 42 a0.toNatClampNeg) + ((((μ.1 41 ((a0 * 4) + a1).toNatClampNeg) * 9) / 10).toInt64))).2.1 39 2) - ((((μ.1 41 ((a0 * 4) + a1).toNatClampNeg) * 9) / 10).toInt64))))
set_option maxHeartbeats 4000000 in
set_option maxRecDepth 100000 in
theorem sX8_takeBack {g : rj_G} {ω : rj_W} (hω : rj_ok ω) (μ : rj_M) (a0 : Int32) (a1 : Int32)   : rj_Sp g yX8_takeBack wsX8_takeBack (rj_rm 1 0) [.ref (ω.2.2 39), .int a0, .int a1] ω μ (rj_D (.inl (some (.int (fX8_takeBack μ a0 a1)))) ω (mX8_takeBack μ a0 a1)) := by
  refine rj_of' (cc := cX8_takeBack) (nL := 4) (ret := (some .int)) (own := RX8) (l0 := [(0, .ref (ω.2.2 39)), (1, .int a0), (2, .int a1)]) rfl (by decide +kernel) rfl (Nat.le_of_ble_eq_true rfl) rfl ?_
  refine rj_iload_n 1 dX8_takeBack_0 rfl rfl ?_
  refine rj_iload_n 2 dX8_takeBack_1 rfl rfl ?_
  refine rj_cS (rest := []) (sX8_isTicket (g := g) (ω := ω) hω μ a0 a1   ) gX8_takeBack_X8_isTicket rfl hSX8_isTicket ⟨Nat.le_of_ble_eq_true rfl, Nat.le_of_ble_eq_true rfl⟩ dX8_takeBack_2 rfl rfl rfl (Nat.le_of_ble_eq_true rfl) rfl (Nat.le_of_ble_eq_true rfl) rfl ?_
  refine rj_if_ne dX8_takeBack_5 rfl rfl (fun h1 => ?_) (fun h1 => ?_)
  · refine rj_aload_n 0 dX8_takeBack_10 rfl rfl ?_
    refine rj_getR (C0 := RX8) (T := TX8) (N := 5) (j := 1) (r := 41) dX8_takeBack_11 rfl vX8_takeBack_8 rfl (rj_lt hω (k := 39) rfl) (rj_sh hω ly_39) (by decide) kX8_takeBack_15 rfl ?_
    refine rj_iload_n 1 dX8_takeBack_14 rfl rfl ?_
    refine rj_iconst (v := 4) dX8_takeBack_15 rfl (by decide) ?_
    refine rj_imul dX8_takeBack_16 rfl ?_
    refine rj_iload_n 2 dX8_takeBack_17 rfl rfl ?_
    refine rj_iadd dX8_takeBack_18 rfl ?_
    refine rj_iald dX8_takeBack_19 rfl (rj_lt hω (k := 41) rfl) (rj_sh hω ly_41) (rj_tkin h1) ?_
    refine rj_bipush (v := 9) dX8_takeBack_20 rfl (by decide) ?_
    refine rj_imul dX8_takeBack_22 rfl ?_
    refine rj_bipush (v := 10) dX8_takeBack_23 rfl (by decide) ?_
    refine rj_idiv dX8_takeBack_25 rfl (by decide) ?_
    refine rj_istore_n (l' := [(3, .int (((μ.1 41 ((a0 * 4) + a1).toNatClampNeg) * 9) / 10)), (0, .ref (ω.2.2 39)), (1, .int a0), (2, .int a1)]) dX8_takeBack_26 rfl (rj_bl rfl) rfl ?_
    refine rj_aload_n 1 dX8_takeBack_27 rfl rfl ?_
    refine rj_getR (C0 := RX8) (T := TX8) (N := 5) (j := 1) (r := 41) dX8_takeBack_28 rfl vX8_takeBack_8 rfl (rj_lt hω (k := 39) rfl) (rj_sh hω ly_39) (by decide) kX8_takeBack_15 rfl ?_
    refine rj_iload_n 2 dX8_takeBack_31 rfl rfl ?_
    refine rj_iconst (v := 4) dX8_takeBack_32 rfl (by decide) ?_
    refine rj_imul dX8_takeBack_33 rfl ?_
    refine rj_iload_n 3 dX8_takeBack_34 rfl rfl ?_
    refine rj_iadd dX8_takeBack_35 rfl ?_
    refine rj_iconst (v := (-1)) dX8_takeBack_36 rfl (by decide) ?_
    refine rj_iast dX8_takeBack_37 rfl (rj_lt hω (k := 41) rfl) (rj_sh hω ly_41) (rj_tkin h1) ?_
    refine rj_aload_n 1 dX8_takeBack_38 rfl rfl ?_
    refine rj_getR (C0 := RX8) (T := TX8) (N := 5) (j := 3) (r := 42) dX8_takeBack_39 rfl vX8_takeBack_8 rfl (rj_lt hω (k := 39) rfl) (rj_sh hω ly_39) (by decide) kX8_takeBack_22 rfl ?_
    refine rj_iload_n 2 dX8_takeBack_42 rfl rfl ?_
    refine rj_dup2 dX8_takeBack_43 rfl rfl rfl ?_
    refine rj_lald dX8_takeBack_44 rfl (rj_lt hω (k := 42) rfl) (rj_sh hω ly_42) (rj_tkin1 h1) ?_
    refine rj_iload_n 0 dX8_takeBack_45 rfl rfl ?_
    refine rj_i2l dX8_takeBack_46 rfl ?_
    refine rj_ladd dX8_takeBack_47 rfl ?_
    refine rj_last dX8_takeBack_48 rfl (rj_lt hω (k := 42) rfl) (rj_sh hω ly_42) (rj_tkin1 h1) ?_
    refine rj_aload_n 1 dX8_takeBack_49 rfl rfl ?_
    refine rj_dup dX8_takeBack_50 rfl rfl ?_
    refine rj_getL (C0 := RX8) (T := TX8) (N := 5) (j := 2) dX8_takeBack_51 rfl vX8_takeBack_8 rfl (rj_lt hω (k := 39) rfl) (rj_sh hω ly_39) (by decide) kX8_takeBack_18 rfl ?_
    refine rj_iload_n 0 dX8_takeBack_54 rfl rfl ?_
    refine rj_i2l dX8_takeBack_55 rfl ?_
    refine rj_lsub dX8_takeBack_56 rfl ?_
    refine rj_putL (C0 := RX8) (T := TX8) (N := 5) (j := 2) dX8_takeBack_57 rfl vX8_takeBack_8 rfl (rj_lt hω (k := 39) rfl) (rj_sh hω ly_39) (by decide) kX8_takeBack_18 tyX8 tyX8_ok nmX8 rfl rfl rfl rfl ?_
    refine rj_iload_n 0 dX8_takeBack_60 rfl rfl ?_
    exact rj_iret dX8_takeBack_61 rfl (Nat.le_of_ble_eq_true rfl) (Nat.le_of_ble_eq_true rfl) ⟨(by unfold fX8_takeBack; rw [if_neg h1]; try rfl), rfl, (by unfold mX8_takeBack; rw [if_neg h1]; try rfl)⟩
  · refine rj_iconst (v := 0) dX8_takeBack_8 rfl (by decide) ?_
    exact rj_iret dX8_takeBack_9 rfl (Nat.le_of_ble_eq_true rfl) (Nat.le_of_ble_eq_true rfl) ⟨(by unfold fX8_takeBack; rw [if_pos h1]; try rfl), rfl, (by unfold mX8_takeBack; rw [if_pos h1]; try rfl)⟩
theorem hSX8_handOver : yX8_handOver.cls ≠ "java/lang/invoke/MethodHandle" ∧ yX8_handOver.cls ≠ "java/lang/invoke/VarHandle" ∧ (parseMethodDescriptor yX8_handOver.desc).map (fun d => d.parameters.length) = some 3 := by decide +kernel
theorem hVX8_handOver : yX8_handOver.cls = RX8 ∧ yX8_handOver.cls ≠ "java/lang/invoke/MethodHandle" ∧ yX8_handOver.cls ≠ "java/lang/invoke/VarHandle" ∧ (parseMethodDescriptor yX8_handOver.desc).map (fun d => d.parameters.length) = some 3 := by decide +kernel
theorem vX8_handOver_8 : ∀ w ∈ u_ws RX8 TX8 5, w ∈ wsX8_handOver := by decide +kernel
theorem kX8_handOver_15 : Cond.fieldLink RX8 15 (TX8 1).1 (TX8 1).2.1 (TX8 1).2.2.1 ∈ wsX8_handOver := by decide +kernel
theorem kX8_handOver_22 : Cond.fieldLink RX8 22 (TX8 3).1 (TX8 3).2.1 (TX8 3).2.2.1 ∈ wsX8_handOver := by decide +kernel
def fX8_handOver (μ : rj_M) (a0 : Int32) (a1 : Int32) (a2 : Int32) : Int32 := (if (fX8_isTicket μ a0 a2) = 0 then 0 else (if (fX8_isTicket μ a1 a2) = 0 then 0 else (μ.1 41 ((a0 * 4) + a2).toNatClampNeg)))
def mX8_handOver (μ : rj_M) (a0 : Int32) (a1 : Int32) (a2 : Int32) : rj_M := (if (fX8_isTicket μ a0 a2) = 0 then μ else (if (fX8_isTicket μ a1 a2) = 0 then μ else (rj_pl (rj_pl (rj_pi (rj_pi μ 41 ((a0 * 4) + a2).toNatClampNeg (-1)) 41 ((a1 * 4) + a2).toNatClampNeg (μ.1 41 ((a0 * 4) + a2).toNatClampNeg)) 42 a0.toNatClampNeg (((rj_pi (rj_pi μ 41 ((a0 * 4) + a2).toNatClampNeg (-1)) 41 ((a1 * 4) + a2).toNatClampNeg (μ.1 41 ((a0 * 4) + a2).toNatClampNeg)).2.1 42 a0.toNatClampNeg) + ((μ.1 41 ((a0 * 4) + a2).toNatClampNeg).toInt64))) 42 a1.toNatClampNeg (((rj_pl (rj_pi (rj_pi μ 41 ((a0 * 4) + a2).toNatClampNeg (-1)) 41 ((a1 * 4) + a2).toNatClampNeg (μ.1 41 ((a0 * 4) + a2).toNatClampNeg)) 42 a0.toNatClampNeg (((rj_pi (rj_pi μ 41 ((a0 * 4) + a2).toNatClampNeg (-1)) 41 ((a1 * 4) + a2).toNatClampNeg (μ.1 41 ((a0 * 4) + a2).toNatClampNeg)).2.1 42 a0.toNatClampNeg) + ((μ.1 41 ((a0 * 4) + a2).toNatClampNeg).toInt64))).2.1 42 a1.toNatClampNeg) - ((μ.1 41 ((a0 * 4) + a2).toNatClampNeg).toInt64)))))
set_option maxHeartbeats 4000000 in
set_option maxRecDepth 100000 in
theorem sX8_handOver {g : rj_G} {ω : rj_W} (hω : rj_ok ω) (μ : rj_M) (a0 : Int32) (a1 : Int32) (a2 : Int32)   : rj_Sp g yX8_handOver wsX8_handOver (rj_rm 1 0) [.ref (ω.2.2 39), .int a0, .int a1, .int a2] ω μ (rj_D (.inl (some (.int (fX8_handOver μ a0 a1 a2)))) ω (mX8_handOver μ a0 a1 a2)) := by
  refine rj_of' (cc := cX8_handOver) (nL := 5) (ret := (some .int)) (own := RX8) (l0 := [(0, .ref (ω.2.2 39)), (1, .int a0), (2, .int a1), (3, .int a2)]) rfl (by decide +kernel) rfl (Nat.le_of_ble_eq_true rfl) rfl ?_
  refine rj_iload_n 1 dX8_handOver_0 rfl rfl ?_
  refine rj_iload_n 3 dX8_handOver_1 rfl rfl ?_
  refine rj_cS (rest := []) (sX8_isTicket (g := g) (ω := ω) hω μ a0 a2   ) gX8_handOver_X8_isTicket rfl hSX8_isTicket ⟨Nat.le_of_ble_eq_true rfl, Nat.le_of_ble_eq_true rfl⟩ dX8_handOver_2 rfl rfl rfl (Nat.le_of_ble_eq_true rfl) rfl (Nat.le_of_ble_eq_true rfl) rfl ?_
  refine rj_if_eq dX8_handOver_5 rfl rfl (fun h1 => ?_) (fun h1 => ?_)
  · refine rj_iconst (v := 0) dX8_handOver_16 rfl (by decide) ?_
    exact rj_iret dX8_handOver_17 rfl (Nat.le_of_ble_eq_true rfl) (Nat.le_of_ble_eq_true rfl) ⟨(by unfold fX8_handOver; rw [if_pos h1]; try rfl), rfl, (by unfold mX8_handOver; rw [if_pos h1]; try rfl)⟩
  · refine rj_iload_n 2 dX8_handOver_8 rfl rfl ?_
    refine rj_iload_n 3 dX8_handOver_9 rfl rfl ?_
    refine rj_cS (rest := []) (sX8_isTicket (g := g) (ω := ω) hω μ a1 a2   ) gX8_handOver_X8_isTicket rfl hSX8_isTicket ⟨Nat.le_of_ble_eq_true rfl, Nat.le_of_ble_eq_true rfl⟩ dX8_handOver_10 rfl rfl rfl (Nat.le_of_ble_eq_true rfl) rfl (Nat.le_of_ble_eq_true rfl) rfl ?_
    refine rj_if_ne dX8_handOver_13 rfl rfl (fun h2 => ?_) (fun h2 => ?_)
    · refine rj_aload_n 0 dX8_handOver_18 rfl rfl ?_
      refine rj_getR (C0 := RX8) (T := TX8) (N := 5) (j := 1) (r := 41) dX8_handOver_19 rfl vX8_handOver_8 rfl (rj_lt hω (k := 39) rfl) (rj_sh hω ly_39) (by decide) kX8_handOver_15 rfl ?_
      refine rj_iload_n 1 dX8_handOver_22 rfl rfl ?_
      refine rj_iconst (v := 4) dX8_handOver_23 rfl (by decide) ?_
      refine rj_imul dX8_handOver_24 rfl ?_
      refine rj_iload_n 3 dX8_handOver_25 rfl rfl ?_
      refine rj_iadd dX8_handOver_26 rfl ?_
      refine rj_iald dX8_handOver_27 rfl (rj_lt hω (k := 41) rfl) (rj_sh hω ly_41) (rj_tkin h1) ?_
      refine rj_istore (l' := [(4, .int (μ.1 41 ((a0 * 4) + a2).toNatClampNeg)), (0, .ref (ω.2.2 39)), (1, .int a0), (2, .int a1), (3, .int a2)]) dX8_handOver_28 rfl (rj_bl rfl) rfl ?_
      refine rj_aload_n 1 dX8_handOver_30 rfl rfl ?_
      refine rj_getR (C0 := RX8) (T := TX8) (N := 5) (j := 1) (r := 41) dX8_handOver_31 rfl vX8_handOver_8 rfl (rj_lt hω (k := 39) rfl) (rj_sh hω ly_39) (by decide) kX8_handOver_15 rfl ?_
      refine rj_iload_n 2 dX8_handOver_34 rfl rfl ?_
      refine rj_iconst (v := 4) dX8_handOver_35 rfl (by decide) ?_
      refine rj_imul dX8_handOver_36 rfl ?_
      refine rj_iload_n 4 dX8_handOver_37 rfl rfl ?_
      refine rj_iadd dX8_handOver_38 rfl ?_
      refine rj_iconst (v := (-1)) dX8_handOver_39 rfl (by decide) ?_
      refine rj_iast dX8_handOver_40 rfl (rj_lt hω (k := 41) rfl) (rj_sh hω ly_41) (rj_tkin h1) ?_
      refine rj_aload_n 1 dX8_handOver_41 rfl rfl ?_
      refine rj_getR (C0 := RX8) (T := TX8) (N := 5) (j := 1) (r := 41) dX8_handOver_42 rfl vX8_handOver_8 rfl (rj_lt hω (k := 39) rfl) (rj_sh hω ly_39) (by decide) kX8_handOver_15 rfl ?_
      refine rj_iload_n 3 dX8_handOver_45 rfl rfl ?_
      refine rj_iconst (v := 4) dX8_handOver_46 rfl (by decide) ?_
      refine rj_imul dX8_handOver_47 rfl ?_
      refine rj_iload_n 4 dX8_handOver_48 rfl rfl ?_
      refine rj_iadd dX8_handOver_49 rfl ?_
      refine rj_iload 0 dX8_handOver_50 rfl rfl ?_
      refine rj_iast dX8_handOver_52 rfl (rj_lt hω (k := 41) rfl) (rj_sh hω ly_41) (rj_tkin h2) ?_
      refine rj_aload_n 1 dX8_handOver_53 rfl rfl ?_
      refine rj_getR (C0 := RX8) (T := TX8) (N := 5) (j := 3) (r := 42) dX8_handOver_54 rfl vX8_handOver_8 rfl (rj_lt hω (k := 39) rfl) (rj_sh hω ly_39) (by decide) kX8_handOver_22 rfl ?_
      refine rj_iload_n 2 dX8_handOver_57 rfl rfl ?_
      refine rj_dup2 dX8_handOver_58 rfl rfl rfl ?_
      refine rj_lald dX8_handOver_59 rfl (rj_lt hω (k := 42) rfl) (rj_sh hω ly_42) (rj_tkin1 h1) ?_
      refine rj_iload 0 dX8_handOver_60 rfl rfl ?_
      refine rj_i2l dX8_handOver_62 rfl ?_
      refine rj_ladd dX8_handOver_63 rfl ?_
      refine rj_last dX8_handOver_64 rfl (rj_lt hω (k := 42) rfl) (rj_sh hω ly_42) (rj_tkin1 h1) ?_
      refine rj_aload_n 1 dX8_handOver_65 rfl rfl ?_
      refine rj_getR (C0 := RX8) (T := TX8) (N := 5) (j := 3) (r := 42) dX8_handOver_66 rfl vX8_handOver_8 rfl (rj_lt hω (k := 39) rfl) (rj_sh hω ly_39) (by decide) kX8_handOver_22 rfl ?_
      refine rj_iload_n 3 dX8_handOver_69 rfl rfl ?_
      refine rj_dup2 dX8_handOver_70 rfl rfl rfl ?_
      refine rj_lald dX8_handOver_71 rfl (rj_lt hω (k := 42) rfl) (rj_sh hω ly_42) (rj_tkin1 h2) ?_
      refine rj_iload 0 dX8_handOver_72 rfl rfl ?_
      refine rj_i2l dX8_handOver_74 rfl ?_
      refine rj_lsub dX8_handOver_75 rfl ?_
      refine rj_last dX8_handOver_76 rfl (rj_lt hω (k := 42) rfl) (rj_sh hω ly_42) (rj_tkin1 h2) ?_
      refine rj_iload 0 dX8_handOver_77 rfl rfl ?_
      exact rj_iret dX8_handOver_79 rfl (Nat.le_of_ble_eq_true rfl) (Nat.le_of_ble_eq_true rfl) ⟨(by unfold fX8_handOver; rw [if_neg h1]; rw [if_neg h2]; try rfl), rfl, (by unfold mX8_handOver; rw [if_neg h1]; rw [if_neg h2]; try rfl)⟩
    · refine rj_iconst (v := 0) dX8_handOver_16 rfl (by decide) ?_
      exact rj_iret dX8_handOver_17 rfl (Nat.le_of_ble_eq_true rfl) (Nat.le_of_ble_eq_true rfl) ⟨(by unfold fX8_handOver; rw [if_neg h1]; rw [if_pos h2]; try rfl), rfl, (by unfold mX8_handOver; rw [if_neg h1]; rw [if_pos h2]; try rfl)⟩
theorem hSX8_payAct : yX8_payAct.cls ≠ "java/lang/invoke/MethodHandle" ∧ yX8_payAct.cls ≠ "java/lang/invoke/VarHandle" ∧ (parseMethodDescriptor yX8_payAct.desc).map (fun d => d.parameters.length) = some 2 := by decide +kernel
theorem hVX8_payAct : yX8_payAct.cls = RX8 ∧ yX8_payAct.cls ≠ "java/lang/invoke/MethodHandle" ∧ yX8_payAct.cls ≠ "java/lang/invoke/VarHandle" ∧ (parseMethodDescriptor yX8_payAct.desc).map (fun d => d.parameters.length) = some 2 := by decide +kernel
theorem vX8_payAct_8 : ∀ w ∈ u_ws RX8 TX8 5, w ∈ wsX8_payAct := by decide +kernel
theorem kX8_payAct_26 : Cond.fieldLink RX8 26 (TX8 4).1 (TX8 4).2.1 (TX8 4).2.2.1 ∈ wsX8_payAct := by decide +kernel
def bX8_payAct_3 (μ : rj_M) (a0 : Int32) (a1 : Int64) (j3 : Nat) (s3 : rj_M) : rj_M := (if ((a0 >>> ((nI j3) &&& 31)) &&& 1) = 0 then s3 else (rj_pl s3 43 (nI j3).toNatClampNeg ((s3.2.1 43 (nI j3).toNatClampNeg) + a1)))
set_option maxHeartbeats 4000000 in
set_option maxRecDepth 100000 in
theorem lX8_payAct_3 {g : rj_G} {ω : rj_W} (hω : rj_ok ω) (μ : rj_M) (a0 : Int32) (a1 : Int64)     {F : rj_F} : ∀ (r j : Nat) (s : rj_M), j + r = 12 → (rj_R g RX8 cX8_payAct 5 none wsX8_payAct [] (rj_rm 0 0) F 0 ω (rj_fo (bX8_payAct_3 μ a0 a1) r j s) [(0, .ref (ω.2.2 39)), (1, .int a0), (2, .long a1), (4, .int (nI 12))] 36 []) → rj_R g RX8 cX8_payAct 5 none wsX8_payAct [] (rj_rm 0 0) F 0 ω s [(0, .ref (ω.2.2 39)), (1, .int a0), (2, .long a1), (4, .int (nI j))] 3 [] := by
  intro r
  induction r with
  | zero =>
    intro j s hj K
    have e0 : j = 12 := by omega
    have hge : 12 ≤ nI j := by
      rw [e0]
      exact Int32.le_refl _
    refine rj_iload 3 dX8_payAct_3 rfl rfl ?_
    refine rj_bipush (v := 12) dX8_payAct_5 rfl (by decide) ?_
    refine rj_icmp_ge dX8_payAct_7 rfl rfl (fun h3 => ?_) (fun h3 => ?_)
    · have e1 : nI j = nI 12 := by rw [e0]
      rw [e1]
      exact K
    · exact absurd hge h3
  | succ r ih =>
    intro j3 s3 hj K
    have hl3 : j3 < 12 := by omega
    have hg3 : ¬ 12 ≤ nI j3 := nI_ge hl3 (rj_bl rfl)
    refine rj_iload 3 dX8_payAct_3 rfl rfl ?_
    refine rj_bipush (v := 12) dX8_payAct_5 rfl (by decide) ?_
    refine rj_icmp_ge dX8_payAct_7 rfl rfl (fun h1 => ?_) (fun h1 => ?_)
    · exact absurd h1 hg3
    · refine rj_iload_n 1 dX8_payAct_10 rfl rfl ?_
      refine rj_iload 3 dX8_payAct_11 rfl rfl ?_
      refine rj_ishr dX8_payAct_13 rfl ?_
      refine rj_iconst (v := 1) dX8_payAct_14 rfl (by decide) ?_
      refine rj_iand dX8_payAct_15 rfl ?_
      refine rj_if_eq dX8_payAct_16 rfl rfl (fun h2 => ?_) (fun h2 => ?_)
      · refine rj_iinc (v := nI (j3 + 1)) (l' := [(4, .int (nI (j3 + 1))), (0, .ref (ω.2.2 39)), (1, .int a0), (2, .long a1)]) 3 dX8_payAct_30 rfl rfl (nI_succ j3).symm (rj_bl rfl) rfl ?_
        refine rj_goto dX8_payAct_33 rfl ?_
        have e : bX8_payAct_3 μ a0 a1 j3 s3 = s3 := by unfold bX8_payAct_3; rw [if_pos h2]; try rfl
        exact rj_sub (l' := [(0, .ref (ω.2.2 39)), (1, .int a0), (2, .long a1), (4, .int (nI (j3 + 1)))]) [1, 2, 3, 0] rfl (ih (j3 + 1) s3 (by omega) (by rw [rj_fo_s, e] at K; exact K))
      · refine rj_aload_n 0 dX8_payAct_19 rfl rfl ?_
        refine rj_getR (C0 := RX8) (T := TX8) (N := 5) (j := 4) (r := 43) dX8_payAct_20 rfl vX8_payAct_8 rfl (rj_lt hω (k := 39) rfl) (rj_sh hω ly_39) (by decide) kX8_payAct_26 rfl ?_
        refine rj_iload 3 dX8_payAct_23 rfl rfl ?_
        refine rj_dup2 dX8_payAct_25 rfl rfl rfl ?_
        refine rj_lald dX8_payAct_26 rfl (rj_lt hω (k := 43) rfl) (rj_sh hω ly_43) (vp_in_nI hl3 (rj_bl rfl)) ?_
        refine rj_lload_n 2 dX8_payAct_27 rfl rfl ?_
        refine rj_ladd dX8_payAct_28 rfl ?_
        refine rj_last dX8_payAct_29 rfl (rj_lt hω (k := 43) rfl) (rj_sh hω ly_43) (vp_in_nI hl3 (rj_bl rfl)) ?_
        refine rj_iinc (v := nI (j3 + 1)) (l' := [(4, .int (nI (j3 + 1))), (0, .ref (ω.2.2 39)), (1, .int a0), (2, .long a1)]) 3 dX8_payAct_30 rfl rfl (nI_succ j3).symm (rj_bl rfl) rfl ?_
        refine rj_goto dX8_payAct_33 rfl ?_
        have e : bX8_payAct_3 μ a0 a1 j3 s3 = (rj_pl s3 43 (nI j3).toNatClampNeg ((s3.2.1 43 (nI j3).toNatClampNeg) + a1)) := by unfold bX8_payAct_3; rw [if_neg h2]; try rfl
        exact rj_sub (l' := [(0, .ref (ω.2.2 39)), (1, .int a0), (2, .long a1), (4, .int (nI (j3 + 1)))]) [1, 2, 3, 0] rfl (ih (j3 + 1) (rj_pl s3 43 (nI j3).toNatClampNeg ((s3.2.1 43 (nI j3).toNatClampNeg) + a1)) (by omega) (by rw [rj_fo_s, e] at K; exact K))
def mX8_payAct (μ : rj_M) (a0 : Int32) (a1 : Int64) : rj_M := (rj_fo (bX8_payAct_3 μ a0 a1) 12 0 μ)
set_option maxHeartbeats 4000000 in
set_option maxRecDepth 100000 in
theorem sX8_payAct {g : rj_G} {ω : rj_W} (hω : rj_ok ω) (μ : rj_M) (a0 : Int32) (a1 : Int64)   : rj_Sp g yX8_payAct wsX8_payAct (rj_rm 0 0) [.ref (ω.2.2 39), .int a0, .long a1] ω μ (rj_D (.inl none) ω (mX8_payAct μ a0 a1)) := by
  refine rj_of' (cc := cX8_payAct) (nL := 5) (ret := none) (own := RX8) (l0 := [(0, .ref (ω.2.2 39)), (1, .int a0), (2, .long a1)]) rfl (by decide +kernel) rfl (Nat.le_of_ble_eq_true rfl) rfl ?_
  refine rj_iconst (v := 0) dX8_payAct_0 rfl (by decide) ?_
  refine rj_istore (l' := [(4, .int 0), (0, .ref (ω.2.2 39)), (1, .int a0), (2, .long a1)]) dX8_payAct_1 rfl (rj_bl rfl) rfl ?_
  refine rj_sub (l' := [(0, .ref (ω.2.2 39)), (1, .int a0), (2, .long a1), (4, .int (nI 0))]) [1, 2, 3, 0] rfl ?_
  refine lX8_payAct_3 hω μ a0 a1     12 0 μ rfl ?_
  exact rj_vret dX8_payAct_36 rfl (Nat.le_of_ble_eq_true rfl) (Nat.le_of_ble_eq_true rfl) ⟨rfl, rfl, (by unfold mX8_payAct; rfl)⟩
theorem rj_dne {x : Int32} (h : ¬ x ≤ 0) : ¬ x.toInt64 = 0 := by
  intro z
  apply h
  have z2 : x.toInt64.toInt = 0 := by rw [z]; rfl
  rw [Int32.toInt_toInt64] at z2
  rw [Int32.le_iff_toInt_le, z2]
  decide
theorem hSX8_payMembers : yX8_payMembers.cls ≠ "java/lang/invoke/MethodHandle" ∧ yX8_payMembers.cls ≠ "java/lang/invoke/VarHandle" ∧ (parseMethodDescriptor yX8_payMembers.desc).map (fun d => d.parameters.length) = some 2 := by decide +kernel
theorem hVX8_payMembers : yX8_payMembers.cls = RX8 ∧ yX8_payMembers.cls ≠ "java/lang/invoke/MethodHandle" ∧ yX8_payMembers.cls ≠ "java/lang/invoke/VarHandle" ∧ (parseMethodDescriptor yX8_payMembers.desc).map (fun d => d.parameters.length) = some 2 := by decide +kernel
theorem vX8_payMembers_8 : ∀ w ∈ u_ws RX8 TX8 5, w ∈ wsX8_payMembers := by decide +kernel
theorem kX8_payMembers_18 : Cond.fieldLink RX8 18 (TX8 2).1 (TX8 2).2.1 (TX8 2).2.2.1 ∈ wsX8_payMembers := by decide +kernel
def bX8_payMembers_5 (μ : rj_M) (a1 : Int32) (j5 : Nat) (s5 : Int32) : Int32 := (s5 + (((a1 >>> ((nI j5) &&& 31)) &&& 1) * (fJ6_bitCount_0f7a4 μ (fX7_membersOf μ (nI j5)))))
set_option maxHeartbeats 4000000 in
set_option maxRecDepth 100000 in
theorem lX8_payMembers_5 {g : rj_G} {ω : rj_W} (hω : rj_ok ω) (μ : rj_M) (a1 : Int32)     {F : rj_F} : ∀ (r j : Nat) (s : Int32), j + r = 16 → (rj_R g RX8 cX8_payMembers 7 (some .int) wsX8_payMembers [] (rj_rm 2 0) F 0 ω μ [(0, .ref (ω.2.2 39)), (1, .ref (ω.2.2 8)), (2, .int a1), (3, .int (rj_fo (bX8_payMembers_5 μ a1) r j s)), (4, .int (nI 16))] 37 []) → rj_R g RX8 cX8_payMembers 7 (some .int) wsX8_payMembers [] (rj_rm 2 0) F 0 ω μ [(0, .ref (ω.2.2 39)), (1, .ref (ω.2.2 8)), (2, .int a1), (3, .int s), (4, .int (nI j))] 5 [] := by
  intro r
  induction r with
  | zero =>
    intro j s hj K
    have e0 : j = 16 := by omega
    have hge : 16 ≤ nI j := by
      rw [e0]
      exact Int32.le_refl _
    refine rj_iload 4 dX8_payMembers_5 rfl rfl ?_
    refine rj_bipush (v := 16) dX8_payMembers_7 rfl (by decide) ?_
    refine rj_icmp_ge dX8_payMembers_9 rfl rfl (fun h2 => ?_) (fun h2 => ?_)
    · have e1 : nI j = nI 16 := by rw [e0]
      rw [e1]
      exact K
    · exact absurd hge h2
  | succ r ih =>
    intro j5 s5 hj K
    have hl5 : j5 < 16 := by omega
    have hg5 : ¬ 16 ≤ nI j5 := nI_ge hl5 (rj_bl rfl)
    refine rj_iload 4 dX8_payMembers_5 rfl rfl ?_
    refine rj_bipush (v := 16) dX8_payMembers_7 rfl (by decide) ?_
    refine rj_icmp_ge dX8_payMembers_9 rfl rfl (fun h1 => ?_) (fun h1 => ?_)
    · exact absurd h1 hg5
    · refine rj_iload_n 3 dX8_payMembers_12 rfl rfl ?_
      refine rj_iload_n 2 dX8_payMembers_13 rfl rfl ?_
      refine rj_iload 4 dX8_payMembers_14 rfl rfl ?_
      refine rj_ishr dX8_payMembers_16 rfl ?_
      refine rj_iconst (v := 1) dX8_payMembers_17 rfl (by decide) ?_
      refine rj_iand dX8_payMembers_18 rfl ?_
      refine rj_aload_n 1 dX8_payMembers_19 rfl rfl ?_
      refine rj_iload 4 dX8_payMembers_20 rfl rfl ?_
      refine rj_cV (rest := [.int ((a1 >>> ((nI j5) &&& 31)) &&& 1), .int s5]) (sX7_membersOf (g := g) (ω := ω) hω μ (nI j5)   ) gX8_payMembers_X7_membersOf (rj_lt hω (k := 8) rfl) (rj_sh hω ly_8) rfl rfl hVX7_membersOf ⟨Nat.le_of_ble_eq_true rfl, Nat.le_of_ble_eq_true rfl⟩ dX8_payMembers_22 rfl rfl rfl (Nat.le_of_ble_eq_true rfl) rfl (Nat.le_of_ble_eq_true rfl) rfl ?_
      refine rj_cS (rest := [.int ((a1 >>> ((nI j5) &&& 31)) &&& 1), .int s5]) (sJ6_bitCount_0f7a4 (g := g) (ω := ω) μ (fX7_membersOf μ (nI j5))   ) gX8_payMembers_J6_bitCount_0f7a4 rfl hSJ6_bitCount_0f7a4 ⟨Nat.le_of_ble_eq_true rfl, Nat.le_of_ble_eq_true rfl⟩ dX8_payMembers_25 rfl rfl rfl (Nat.le_of_ble_eq_true rfl) rfl (Nat.le_of_ble_eq_true rfl) rfl ?_
      refine rj_imul dX8_payMembers_28 rfl ?_
      refine rj_iadd dX8_payMembers_29 rfl ?_
      refine rj_istore_n (l' := [(3, .int (s5 + (((a1 >>> ((nI j5) &&& 31)) &&& 1) * (fJ6_bitCount_0f7a4 μ (fX7_membersOf μ (nI j5)))))), (0, .ref (ω.2.2 39)), (1, .ref (ω.2.2 8)), (2, .int a1), (4, .int (nI j5))]) dX8_payMembers_30 rfl (rj_bl rfl) rfl ?_
      refine rj_iinc (v := nI (j5 + 1)) (l' := [(4, .int (nI (j5 + 1))), (3, .int (s5 + (((a1 >>> ((nI j5) &&& 31)) &&& 1) * (fJ6_bitCount_0f7a4 μ (fX7_membersOf μ (nI j5)))))), (0, .ref (ω.2.2 39)), (1, .ref (ω.2.2 8)), (2, .int a1)]) 4 dX8_payMembers_31 rfl rfl (nI_succ j5).symm (rj_bl rfl) rfl ?_
      refine rj_goto dX8_payMembers_34 rfl ?_
      have e : bX8_payMembers_5 μ a1 j5 s5 = (s5 + (((a1 >>> ((nI j5) &&& 31)) &&& 1) * (fJ6_bitCount_0f7a4 μ (fX7_membersOf μ (nI j5))))) := by unfold bX8_payMembers_5; rfl
      exact rj_sub (l' := [(0, .ref (ω.2.2 39)), (1, .ref (ω.2.2 8)), (2, .int a1), (3, .int (s5 + (((a1 >>> ((nI j5) &&& 31)) &&& 1) * (fJ6_bitCount_0f7a4 μ (fX7_membersOf μ (nI j5)))))), (4, .int (nI (j5 + 1)))]) [2, 3, 4, 1, 0] rfl (ih (j5 + 1) (s5 + (((a1 >>> ((nI j5) &&& 31)) &&& 1) * (fJ6_bitCount_0f7a4 μ (fX7_membersOf μ (nI j5))))) (by omega) (by rw [rj_fo_s, e] at K; exact K))
def bX8_payMembers_78 (μ : rj_M) (a1 : Int32) (j78 : Nat) (s78 : rj_M) : rj_M := (if ((a1 >>> ((nI j78) &&& 31)) &&& 1) = 0 then (mX8_payAct s78 0 ((μ.2.1 39 2) / ((rj_fo (bX8_payMembers_5 μ a1) 16 0 0).toInt64))) else (mX8_payAct s78 (fX7_membersOf s78 (nI j78)) ((μ.2.1 39 2) / ((rj_fo (bX8_payMembers_5 μ a1) 16 0 0).toInt64))))
set_option maxHeartbeats 4000000 in
set_option maxRecDepth 100000 in
theorem lX8_payMembers_78 {g : rj_G} {ω : rj_W} (hω : rj_ok ω) (μ : rj_M) (a1 : Int32)     {F : rj_F} : ∀ (r j : Nat) (s : rj_M), j + r = 16 → (rj_R g RX8 cX8_payMembers 7 (some .int) wsX8_payMembers [] (rj_rm 2 0) F 0 ω (rj_fo (bX8_payMembers_78 μ a1) r j s) [(0, .ref (ω.2.2 39)), (1, .ref (ω.2.2 8)), (2, .int a1), (3, .int (rj_fo (bX8_payMembers_5 μ a1) 16 0 0)), (4, .long ((μ.2.1 39 2) / ((rj_fo (bX8_payMembers_5 μ a1) 16 0 0).toInt64))), (6, .int (nI 16))] 116 []) → rj_R g RX8 cX8_payMembers 7 (some .int) wsX8_payMembers [] (rj_rm 2 0) F 0 ω s [(0, .ref (ω.2.2 39)), (1, .ref (ω.2.2 8)), (2, .int a1), (3, .int (rj_fo (bX8_payMembers_5 μ a1) 16 0 0)), (4, .long ((μ.2.1 39 2) / ((rj_fo (bX8_payMembers_5 μ a1) 16 0 0).toInt64))), (6, .int (nI j))] 78 [] := by
  intro r
  induction r with
  | zero =>
    intro j s hj K
    have e0 : j = 16 := by omega
    have hge : 16 ≤ nI j := by
      rw [e0]
      exact Int32.le_refl _
    refine rj_iload 5 dX8_payMembers_78 rfl rfl ?_
    refine rj_bipush (v := 16) dX8_payMembers_80 rfl (by decide) ?_
    refine rj_icmp_ge dX8_payMembers_82 rfl rfl (fun h7 => ?_) (fun h7 => ?_)
    · have e1 : nI j = nI 16 := by rw [e0]
      rw [e1]
      exact K
    · exact absurd hge h7
  | succ r ih =>
    intro j78 s78 hj K
    have hl78 : j78 < 16 := by omega
    have hg78 : ¬ 16 ≤ nI j78 := nI_ge hl78 (rj_bl rfl)
    refine rj_iload 5 dX8_payMembers_78 rfl rfl ?_
    refine rj_bipush (v := 16) dX8_payMembers_80 rfl (by decide) ?_
    refine rj_icmp_ge dX8_payMembers_82 rfl rfl (fun h5 => ?_) (fun h5 => ?_)
    · exact absurd h5 hg78
    · refine rj_aload_n 0 dX8_payMembers_85 rfl rfl ?_
      refine rj_iload_n 2 dX8_payMembers_86 rfl rfl ?_
      refine rj_iload 5 dX8_payMembers_87 rfl rfl ?_
      refine rj_ishr dX8_payMembers_89 rfl ?_
      refine rj_iconst (v := 1) dX8_payMembers_90 rfl (by decide) ?_
      refine rj_iand dX8_payMembers_91 rfl ?_
      refine rj_if_ne dX8_payMembers_92 rfl rfl (fun h6 => ?_) (fun h6 => ?_)
      · refine rj_aload_n 1 dX8_payMembers_99 rfl rfl ?_
        refine rj_iload 5 dX8_payMembers_100 rfl rfl ?_
        refine rj_cV (rest := [.ref (ω.2.2 39)]) (sX7_membersOf (g := g) (ω := ω) hω s78 (nI j78)   ) gX8_payMembers_X7_membersOf (rj_lt hω (k := 8) rfl) (rj_sh hω ly_8) rfl rfl hVX7_membersOf ⟨Nat.le_of_ble_eq_true rfl, Nat.le_of_ble_eq_true rfl⟩ dX8_payMembers_102 rfl rfl rfl (Nat.le_of_ble_eq_true rfl) rfl (Nat.le_of_ble_eq_true rfl) rfl ?_
        refine rj_lload 4 dX8_payMembers_105 rfl rfl ?_
        refine rj_cV (rest := []) (sX8_payAct (g := g) (ω := ω) hω s78 (fX7_membersOf s78 (nI j78)) ((μ.2.1 39 2) / ((rj_fo (bX8_payMembers_5 μ a1) 16 0 0).toInt64))   ) gX8_payMembers_X8_payAct (rj_lt hω (k := 39) rfl) (rj_sh hω ly_39) rfl rfl hVX8_payAct ⟨Nat.le_of_ble_eq_true rfl, Nat.le_of_ble_eq_true rfl⟩ dX8_payMembers_107 rfl rfl rfl (Nat.le_of_ble_eq_true rfl) rfl (Nat.le_of_ble_eq_true rfl) rfl ?_
        refine rj_iinc (v := nI (j78 + 1)) (l' := [(6, .int (nI (j78 + 1))), (0, .ref (ω.2.2 39)), (1, .ref (ω.2.2 8)), (2, .int a1), (3, .int (rj_fo (bX8_payMembers_5 μ a1) 16 0 0)), (4, .long ((μ.2.1 39 2) / ((rj_fo (bX8_payMembers_5 μ a1) 16 0 0).toInt64)))]) 5 dX8_payMembers_110 rfl rfl (nI_succ j78).symm (rj_bl rfl) rfl ?_
        refine rj_goto dX8_payMembers_113 rfl ?_
        have e : bX8_payMembers_78 μ a1 j78 s78 = (mX8_payAct s78 (fX7_membersOf s78 (nI j78)) ((μ.2.1 39 2) / ((rj_fo (bX8_payMembers_5 μ a1) 16 0 0).toInt64))) := by unfold bX8_payMembers_78; rw [if_neg h6]; try rfl
        exact rj_sub (l' := [(0, .ref (ω.2.2 39)), (1, .ref (ω.2.2 8)), (2, .int a1), (3, .int (rj_fo (bX8_payMembers_5 μ a1) 16 0 0)), (4, .long ((μ.2.1 39 2) / ((rj_fo (bX8_payMembers_5 μ a1) 16 0 0).toInt64))), (6, .int (nI (j78 + 1)))]) [1, 2, 3, 4, 5, 0] rfl (ih (j78 + 1) (mX8_payAct s78 (fX7_membersOf s78 (nI j78)) ((μ.2.1 39 2) / ((rj_fo (bX8_payMembers_5 μ a1) 16 0 0).toInt64))) (by omega) (by rw [rj_fo_s, e] at K; exact K))
      · refine rj_iconst (v := 0) dX8_payMembers_95 rfl (by decide) ?_
        refine rj_goto dX8_payMembers_96 rfl ?_
        refine rj_lload 4 dX8_payMembers_105 rfl rfl ?_
        refine rj_cV (rest := []) (sX8_payAct (g := g) (ω := ω) hω s78 0 ((μ.2.1 39 2) / ((rj_fo (bX8_payMembers_5 μ a1) 16 0 0).toInt64))   ) gX8_payMembers_X8_payAct (rj_lt hω (k := 39) rfl) (rj_sh hω ly_39) rfl rfl hVX8_payAct ⟨Nat.le_of_ble_eq_true rfl, Nat.le_of_ble_eq_true rfl⟩ dX8_payMembers_107 rfl rfl rfl (Nat.le_of_ble_eq_true rfl) rfl (Nat.le_of_ble_eq_true rfl) rfl ?_
        refine rj_iinc (v := nI (j78 + 1)) (l' := [(6, .int (nI (j78 + 1))), (0, .ref (ω.2.2 39)), (1, .ref (ω.2.2 8)), (2, .int a1), (3, .int (rj_fo (bX8_payMembers_5 μ a1) 16 0 0)), (4, .long ((μ.2.1 39 2) / ((rj_fo (bX8_payMembers_5 μ a1) 16 0 0).toInt64)))]) 5 dX8_payMembers_110 rfl rfl (nI_succ j78).symm (rj_bl rfl) rfl ?_
        refine rj_goto dX8_payMembers_113 rfl ?_
        have e : bX8_payMembers_78 μ a1 j78 s78 = (mX8_payAct s78 0 ((μ.2.1 39 2) / ((rj_fo (bX8_payMembers_5 μ a1) 16 0 0).toInt64))) := by unfold bX8_payMembers_78; rw [if_pos h6]; try rfl
        exact rj_sub (l' := [(0, .ref (ω.2.2 39)), (1, .ref (ω.2.2 8)), (2, .int a1), (3, .int (rj_fo (bX8_payMembers_5 μ a1) 16 0 0)), (4, .long ((μ.2.1 39 2) / ((rj_fo (bX8_payMembers_5 μ a1) 16 0 0).toInt64))), (6, .int (nI (j78 + 1)))]) [1, 2, 3, 4, 5, 0] rfl (ih (j78 + 1) (mX8_payAct s78 0 ((μ.2.1 39 2) / ((rj_fo (bX8_payMembers_5 μ a1) 16 0 0).toInt64))) (by omega) (by rw [rj_fo_s, e] at K; exact K))
def fX8_payMembers (μ : rj_M) (a1 : Int32) : Int32 := (if (lg_cmp (μ.2.1 39 2) 0) ≤ 0 then 0 else (if 0 < (rj_fo (bX8_payMembers_5 μ a1) 16 0 0) then ((μ.2.1 39 2) / ((rj_fo (bX8_payMembers_5 μ a1) 16 0 0).toInt64)).toInt32 else 0))
def mX8_payMembers (μ : rj_M) (a1 : Int32) : rj_M := (if (lg_cmp (μ.2.1 39 2) 0) ≤ 0 then μ else (if 0 < (rj_fo (bX8_payMembers_5 μ a1) 16 0 0) then (rj_fo (bX8_payMembers_78 μ a1) 16 0 (rj_pl μ 39 2 ((μ.2.1 39 2) - (((μ.2.1 39 2) / ((rj_fo (bX8_payMembers_5 μ a1) 16 0 0).toInt64)) * ((rj_fo (bX8_payMembers_5 μ a1) 16 0 0).toInt64))))) else μ))
set_option maxHeartbeats 4000000 in
set_option maxRecDepth 100000 in
theorem sX8_payMembers {g : rj_G} {ω : rj_W} (hω : rj_ok ω) (μ : rj_M) (a1 : Int32)   : rj_Sp g yX8_payMembers wsX8_payMembers (rj_rm 2 0) [.ref (ω.2.2 39), .ref (ω.2.2 8), .int a1] ω μ (rj_D (.inl (some (.int (fX8_payMembers μ a1)))) ω (mX8_payMembers μ a1)) := by
  refine rj_of' (cc := cX8_payMembers) (nL := 7) (ret := (some .int)) (own := RX8) (l0 := [(0, .ref (ω.2.2 39)), (1, .ref (ω.2.2 8)), (2, .int a1)]) rfl (by decide +kernel) rfl (Nat.le_of_ble_eq_true rfl) rfl ?_
  refine rj_iconst (v := 0) dX8_payMembers_0 rfl (by decide) ?_
  refine rj_istore_n (l' := [(3, .int 0), (0, .ref (ω.2.2 39)), (1, .ref (ω.2.2 8)), (2, .int a1)]) dX8_payMembers_1 rfl (rj_bl rfl) rfl ?_
  refine rj_iconst (v := 0) dX8_payMembers_2 rfl (by decide) ?_
  refine rj_istore (l' := [(4, .int 0), (3, .int 0), (0, .ref (ω.2.2 39)), (1, .ref (ω.2.2 8)), (2, .int a1)]) dX8_payMembers_3 rfl (rj_bl rfl) rfl ?_
  refine rj_sub (l' := [(0, .ref (ω.2.2 39)), (1, .ref (ω.2.2 8)), (2, .int a1), (3, .int 0), (4, .int (nI 0))]) [2, 3, 4, 1, 0] rfl ?_
  refine lX8_payMembers_5 hω μ a1     16 0 0 rfl ?_
  refine rj_aload_n 0 dX8_payMembers_37 rfl rfl ?_
  refine rj_getL (C0 := RX8) (T := TX8) (N := 5) (j := 2) dX8_payMembers_38 rfl vX8_payMembers_8 rfl (rj_lt hω (k := 39) rfl) (rj_sh hω ly_39) (by decide) kX8_payMembers_18 rfl ?_
  refine rj_lconst (v := 0) dX8_payMembers_41 rfl (by decide) ?_
  refine rj_lcmp dX8_payMembers_42 rfl ?_
  refine rj_if_le dX8_payMembers_43 rfl rfl (fun h3 => ?_) (fun h3 => ?_)
  · refine rj_iconst (v := 0) dX8_payMembers_50 rfl (by decide) ?_
    exact rj_iret dX8_payMembers_51 rfl (Nat.le_of_ble_eq_true rfl) (Nat.le_of_ble_eq_true rfl) ⟨(by unfold fX8_payMembers; rw [if_pos h3]; try rfl), rfl, (by unfold mX8_payMembers; rw [if_pos h3]; try rfl)⟩
  · refine rj_iload_n 3 dX8_payMembers_46 rfl rfl ?_
    refine rj_if_gt dX8_payMembers_47 rfl rfl (fun h4 => ?_) (fun h4 => ?_)
    · refine rj_aload_n 0 dX8_payMembers_52 rfl rfl ?_
      refine rj_getL (C0 := RX8) (T := TX8) (N := 5) (j := 2) dX8_payMembers_53 rfl vX8_payMembers_8 rfl (rj_lt hω (k := 39) rfl) (rj_sh hω ly_39) (by decide) kX8_payMembers_18 rfl ?_
      refine rj_iload_n 3 dX8_payMembers_56 rfl rfl ?_
      refine rj_i2l dX8_payMembers_57 rfl ?_
      refine rj_ldiv dX8_payMembers_58 rfl (rj_dne (Int32.not_le.mpr h4)) ?_
      refine rj_lstore (l' := [(4, .long ((μ.2.1 39 2) / ((rj_fo (bX8_payMembers_5 μ a1) 16 0 0).toInt64))), (0, .ref (ω.2.2 39)), (1, .ref (ω.2.2 8)), (2, .int a1), (3, .int (rj_fo (bX8_payMembers_5 μ a1) 16 0 0))]) dX8_payMembers_59 rfl (rj_bl rfl) rfl ?_
      refine rj_aload_n 1 dX8_payMembers_61 rfl rfl ?_
      refine rj_dup dX8_payMembers_62 rfl rfl ?_
      refine rj_getL (C0 := RX8) (T := TX8) (N := 5) (j := 2) dX8_payMembers_63 rfl vX8_payMembers_8 rfl (rj_lt hω (k := 39) rfl) (rj_sh hω ly_39) (by decide) kX8_payMembers_18 rfl ?_
      refine rj_lload 0 dX8_payMembers_66 rfl rfl ?_
      refine rj_iload_n 4 dX8_payMembers_68 rfl rfl ?_
      refine rj_i2l dX8_payMembers_69 rfl ?_
      refine rj_lmul dX8_payMembers_70 rfl ?_
      refine rj_lsub dX8_payMembers_71 rfl ?_
      refine rj_putL (C0 := RX8) (T := TX8) (N := 5) (j := 2) dX8_payMembers_72 rfl vX8_payMembers_8 rfl (rj_lt hω (k := 39) rfl) (rj_sh hω ly_39) (by decide) kX8_payMembers_18 tyX8 tyX8_ok nmX8 rfl rfl rfl rfl ?_
      refine rj_iconst (v := 0) dX8_payMembers_75 rfl (by decide) ?_
      refine rj_istore (l' := [(6, .int 0), (4, .long ((μ.2.1 39 2) / ((rj_fo (bX8_payMembers_5 μ a1) 16 0 0).toInt64))), (0, .ref (ω.2.2 39)), (1, .ref (ω.2.2 8)), (2, .int a1), (3, .int (rj_fo (bX8_payMembers_5 μ a1) 16 0 0))]) dX8_payMembers_76 rfl (rj_bl rfl) rfl ?_
      refine rj_sub (l' := [(0, .ref (ω.2.2 39)), (1, .ref (ω.2.2 8)), (2, .int a1), (3, .int (rj_fo (bX8_payMembers_5 μ a1) 16 0 0)), (4, .long ((μ.2.1 39 2) / ((rj_fo (bX8_payMembers_5 μ a1) 16 0 0).toInt64))), (6, .int (nI 0))]) [2, 3, 4, 5, 1, 0] rfl ?_
      refine lX8_payMembers_78 hω μ a1     16 0 (rj_pl μ 39 2 ((μ.2.1 39 2) - (((μ.2.1 39 2) / ((rj_fo (bX8_payMembers_5 μ a1) 16 0 0).toInt64)) * ((rj_fo (bX8_payMembers_5 μ a1) 16 0 0).toInt64)))) rfl ?_
      refine rj_lload 4 dX8_payMembers_116 rfl rfl ?_
      refine rj_l2i dX8_payMembers_118 rfl ?_
      exact rj_iret dX8_payMembers_119 rfl (Nat.le_of_ble_eq_true rfl) (Nat.le_of_ble_eq_true rfl) ⟨(by unfold fX8_payMembers; rw [if_neg h3]; rw [if_pos h4]; try rfl), rfl, (by unfold mX8_payMembers; rw [if_neg h3]; rw [if_pos h4]; try rfl)⟩
    · refine rj_iconst (v := 0) dX8_payMembers_50 rfl (by decide) ?_
      exact rj_iret dX8_payMembers_51 rfl (Nat.le_of_ble_eq_true rfl) (Nat.le_of_ble_eq_true rfl) ⟨(by unfold fX8_payMembers; rw [if_neg h3]; rw [if_neg h4]; try rfl), rfl, (by unfold mX8_payMembers; rw [if_neg h3]; rw [if_neg h4]; try rfl)⟩
theorem hSX8_sumOfAll : yX8_sumOfAll.cls ≠ "java/lang/invoke/MethodHandle" ∧ yX8_sumOfAll.cls ≠ "java/lang/invoke/VarHandle" ∧ (parseMethodDescriptor yX8_sumOfAll.desc).map (fun d => d.parameters.length) = some 0 := by decide +kernel
theorem hVX8_sumOfAll : yX8_sumOfAll.cls = RX8 ∧ yX8_sumOfAll.cls ≠ "java/lang/invoke/MethodHandle" ∧ yX8_sumOfAll.cls ≠ "java/lang/invoke/VarHandle" ∧ (parseMethodDescriptor yX8_sumOfAll.desc).map (fun d => d.parameters.length) = some 0 := by decide +kernel
theorem vX8_sumOfAll_8 : ∀ w ∈ u_ws RX8 TX8 5, w ∈ wsX8_sumOfAll := by decide +kernel
theorem kX8_sumOfAll_18 : Cond.fieldLink RX8 18 (TX8 2).1 (TX8 2).2.1 (TX8 2).2.2.1 ∈ wsX8_sumOfAll := by decide +kernel
theorem kX8_sumOfAll_22 : Cond.fieldLink RX8 22 (TX8 3).1 (TX8 3).2.1 (TX8 3).2.2.1 ∈ wsX8_sumOfAll := by decide +kernel
theorem kX8_sumOfAll_26 : Cond.fieldLink RX8 26 (TX8 4).1 (TX8 4).2.1 (TX8 4).2.2.1 ∈ wsX8_sumOfAll := by decide +kernel
def bX8_sumOfAll_7 (μ : rj_M) (j7 : Nat) (s7 : Int64) : Int64 := (s7 + (μ.2.1 42 (nI j7).toNatClampNeg))
set_option maxHeartbeats 4000000 in
set_option maxRecDepth 100000 in
theorem lX8_sumOfAll_7 {g : rj_G} {ω : rj_W} (hω : rj_ok ω) (μ : rj_M)     {F : rj_F} : ∀ (r j : Nat) (s : Int64), j + r = 12 → (rj_R g RX8 cX8_sumOfAll 4 (some .long) wsX8_sumOfAll [] (rj_rm 0 0) F 0 ω μ [(0, .ref (ω.2.2 39)), (1, .long (rj_fo (bX8_sumOfAll_7 μ) r j s)), (3, .int (nI 12))] 28 []) → rj_R g RX8 cX8_sumOfAll 4 (some .long) wsX8_sumOfAll [] (rj_rm 0 0) F 0 ω μ [(0, .ref (ω.2.2 39)), (1, .long s), (3, .int (nI j))] 7 [] := by
  intro r
  induction r with
  | zero =>
    intro j s hj K
    have e0 : j = 12 := by omega
    have hge : 12 ≤ nI j := by
      rw [e0]
      exact Int32.le_refl _
    refine rj_iload_n 2 dX8_sumOfAll_7 rfl rfl ?_
    refine rj_bipush (v := 12) dX8_sumOfAll_8 rfl (by decide) ?_
    refine rj_icmp_ge dX8_sumOfAll_10 rfl rfl (fun h2 => ?_) (fun h2 => ?_)
    · have e1 : nI j = nI 12 := by rw [e0]
      rw [e1]
      exact K
    · exact absurd hge h2
  | succ r ih =>
    intro j7 s7 hj K
    have hl7 : j7 < 12 := by omega
    have hg7 : ¬ 12 ≤ nI j7 := nI_ge hl7 (rj_bl rfl)
    refine rj_iload_n 2 dX8_sumOfAll_7 rfl rfl ?_
    refine rj_bipush (v := 12) dX8_sumOfAll_8 rfl (by decide) ?_
    refine rj_icmp_ge dX8_sumOfAll_10 rfl rfl (fun h1 => ?_) (fun h1 => ?_)
    · exact absurd h1 hg7
    · refine rj_lload_n 1 dX8_sumOfAll_13 rfl rfl ?_
      refine rj_aload_n 0 dX8_sumOfAll_14 rfl rfl ?_
      refine rj_getR (C0 := RX8) (T := TX8) (N := 5) (j := 3) (r := 42) dX8_sumOfAll_15 rfl vX8_sumOfAll_8 rfl (rj_lt hω (k := 39) rfl) (rj_sh hω ly_39) (by decide) kX8_sumOfAll_22 rfl ?_
      refine rj_iload_n 2 dX8_sumOfAll_18 rfl rfl ?_
      refine rj_lald dX8_sumOfAll_19 rfl (rj_lt hω (k := 42) rfl) (rj_sh hω ly_42) (vp_in_nI hl7 (rj_bl rfl)) ?_
      refine rj_ladd dX8_sumOfAll_20 rfl ?_
      refine rj_lstore_n (l' := [(1, .long (s7 + (μ.2.1 42 (nI j7).toNatClampNeg))), (0, .ref (ω.2.2 39)), (3, .int (nI j7))]) dX8_sumOfAll_21 rfl (rj_bl rfl) rfl ?_
      refine rj_iinc (v := nI (j7 + 1)) (l' := [(3, .int (nI (j7 + 1))), (1, .long (s7 + (μ.2.1 42 (nI j7).toNatClampNeg))), (0, .ref (ω.2.2 39))]) 2 dX8_sumOfAll_22 rfl rfl (nI_succ j7).symm (rj_bl rfl) rfl ?_
      refine rj_goto dX8_sumOfAll_25 rfl ?_
      have e : bX8_sumOfAll_7 μ j7 s7 = (s7 + (μ.2.1 42 (nI j7).toNatClampNeg)) := by unfold bX8_sumOfAll_7; rfl
      exact rj_sub (l' := [(0, .ref (ω.2.2 39)), (1, .long (s7 + (μ.2.1 42 (nI j7).toNatClampNeg))), (3, .int (nI (j7 + 1)))]) [2, 1, 0] rfl (ih (j7 + 1) (s7 + (μ.2.1 42 (nI j7).toNatClampNeg)) (by omega) (by rw [rj_fo_s, e] at K; exact K))
def bX8_sumOfAll_30 (μ : rj_M) (j30 : Nat) (s30 : Int64) : Int64 := (s30 + (μ.2.1 43 (nI j30).toNatClampNeg))
set_option maxHeartbeats 4000000 in
set_option maxRecDepth 100000 in
theorem lX8_sumOfAll_30 {g : rj_G} {ω : rj_W} (hω : rj_ok ω) (μ : rj_M)     {F : rj_F} : ∀ (r j : Nat) (s : Int64), j + r = 12 → (rj_R g RX8 cX8_sumOfAll 4 (some .long) wsX8_sumOfAll [] (rj_rm 0 0) F 0 ω μ [(0, .ref (ω.2.2 39)), (1, .long (rj_fo (bX8_sumOfAll_30 μ) r j s)), (3, .int (nI 12))] 51 []) → rj_R g RX8 cX8_sumOfAll 4 (some .long) wsX8_sumOfAll [] (rj_rm 0 0) F 0 ω μ [(0, .ref (ω.2.2 39)), (1, .long s), (3, .int (nI j))] 30 [] := by
  intro r
  induction r with
  | zero =>
    intro j s hj K
    have e0 : j = 12 := by omega
    have hge : 12 ≤ nI j := by
      rw [e0]
      exact Int32.le_refl _
    refine rj_iload_n 2 dX8_sumOfAll_30 rfl rfl ?_
    refine rj_bipush (v := 12) dX8_sumOfAll_31 rfl (by decide) ?_
    refine rj_icmp_ge dX8_sumOfAll_33 rfl rfl (fun h4 => ?_) (fun h4 => ?_)
    · have e1 : nI j = nI 12 := by rw [e0]
      rw [e1]
      exact K
    · exact absurd hge h4
  | succ r ih =>
    intro j30 s30 hj K
    have hl30 : j30 < 12 := by omega
    have hg30 : ¬ 12 ≤ nI j30 := nI_ge hl30 (rj_bl rfl)
    refine rj_iload_n 2 dX8_sumOfAll_30 rfl rfl ?_
    refine rj_bipush (v := 12) dX8_sumOfAll_31 rfl (by decide) ?_
    refine rj_icmp_ge dX8_sumOfAll_33 rfl rfl (fun h3 => ?_) (fun h3 => ?_)
    · exact absurd h3 hg30
    · refine rj_lload_n 1 dX8_sumOfAll_36 rfl rfl ?_
      refine rj_aload_n 0 dX8_sumOfAll_37 rfl rfl ?_
      refine rj_getR (C0 := RX8) (T := TX8) (N := 5) (j := 4) (r := 43) dX8_sumOfAll_38 rfl vX8_sumOfAll_8 rfl (rj_lt hω (k := 39) rfl) (rj_sh hω ly_39) (by decide) kX8_sumOfAll_26 rfl ?_
      refine rj_iload_n 2 dX8_sumOfAll_41 rfl rfl ?_
      refine rj_lald dX8_sumOfAll_42 rfl (rj_lt hω (k := 43) rfl) (rj_sh hω ly_43) (vp_in_nI hl30 (rj_bl rfl)) ?_
      refine rj_ladd dX8_sumOfAll_43 rfl ?_
      refine rj_lstore_n (l' := [(1, .long (s30 + (μ.2.1 43 (nI j30).toNatClampNeg))), (0, .ref (ω.2.2 39)), (3, .int (nI j30))]) dX8_sumOfAll_44 rfl (rj_bl rfl) rfl ?_
      refine rj_iinc (v := nI (j30 + 1)) (l' := [(3, .int (nI (j30 + 1))), (1, .long (s30 + (μ.2.1 43 (nI j30).toNatClampNeg))), (0, .ref (ω.2.2 39))]) 2 dX8_sumOfAll_45 rfl rfl (nI_succ j30).symm (rj_bl rfl) rfl ?_
      refine rj_goto dX8_sumOfAll_48 rfl ?_
      have e : bX8_sumOfAll_30 μ j30 s30 = (s30 + (μ.2.1 43 (nI j30).toNatClampNeg)) := by unfold bX8_sumOfAll_30; rfl
      exact rj_sub (l' := [(0, .ref (ω.2.2 39)), (1, .long (s30 + (μ.2.1 43 (nI j30).toNatClampNeg))), (3, .int (nI (j30 + 1)))]) [2, 1, 0] rfl (ih (j30 + 1) (s30 + (μ.2.1 43 (nI j30).toNatClampNeg)) (by omega) (by rw [rj_fo_s, e] at K; exact K))
def fX8_sumOfAll (μ : rj_M) : Int64 := (rj_fo (bX8_sumOfAll_30 μ) 12 0 (rj_fo (bX8_sumOfAll_7 μ) 12 0 (μ.2.1 39 2)))
set_option maxHeartbeats 4000000 in
set_option maxRecDepth 100000 in
theorem sX8_sumOfAll {g : rj_G} {ω : rj_W} (hω : rj_ok ω) (μ : rj_M)   : rj_Sp g yX8_sumOfAll wsX8_sumOfAll (rj_rm 0 0) [.ref (ω.2.2 39)] ω μ (rj_D (.inl (some (.long (fX8_sumOfAll μ)))) ω μ) := by
  refine rj_of' (cc := cX8_sumOfAll) (nL := 4) (ret := (some .long)) (own := RX8) (l0 := [(0, .ref (ω.2.2 39))]) rfl (by decide +kernel) rfl (Nat.le_of_ble_eq_true rfl) rfl ?_
  refine rj_aload_n 0 dX8_sumOfAll_0 rfl rfl ?_
  refine rj_getL (C0 := RX8) (T := TX8) (N := 5) (j := 2) dX8_sumOfAll_1 rfl vX8_sumOfAll_8 rfl (rj_lt hω (k := 39) rfl) (rj_sh hω ly_39) (by decide) kX8_sumOfAll_18 rfl ?_
  refine rj_lstore_n (l' := [(1, .long (μ.2.1 39 2)), (0, .ref (ω.2.2 39))]) dX8_sumOfAll_4 rfl (rj_bl rfl) rfl ?_
  refine rj_iconst (v := 0) dX8_sumOfAll_5 rfl (by decide) ?_
  refine rj_istore_n (l' := [(3, .int 0), (1, .long (μ.2.1 39 2)), (0, .ref (ω.2.2 39))]) dX8_sumOfAll_6 rfl (rj_bl rfl) rfl ?_
  refine rj_sub (l' := [(0, .ref (ω.2.2 39)), (1, .long (μ.2.1 39 2)), (3, .int (nI 0))]) [2, 1, 0] rfl ?_
  refine lX8_sumOfAll_7 hω μ     12 0 (μ.2.1 39 2) rfl ?_
  refine rj_iconst (v := 0) dX8_sumOfAll_28 rfl (by decide) ?_
  refine rj_istore_n (l' := [(3, .int 0), (0, .ref (ω.2.2 39)), (1, .long (rj_fo (bX8_sumOfAll_7 μ) 12 0 (μ.2.1 39 2)))]) dX8_sumOfAll_29 rfl (rj_bl rfl) rfl ?_
  refine rj_sub (l' := [(0, .ref (ω.2.2 39)), (1, .long (rj_fo (bX8_sumOfAll_7 μ) 12 0 (μ.2.1 39 2))), (3, .int (nI 0))]) [1, 2, 0] rfl ?_
  refine lX8_sumOfAll_30 hω μ     12 0 (rj_fo (bX8_sumOfAll_7 μ) 12 0 (μ.2.1 39 2)) rfl ?_
  refine rj_lload_n 1 dX8_sumOfAll_51 rfl rfl ?_
  exact rj_lret dX8_sumOfAll_52 rfl (Nat.le_of_ble_eq_true rfl) (Nat.le_of_ble_eq_true rfl) ⟨(by unfold fX8_sumOfAll; rfl), rfl, rfl⟩
