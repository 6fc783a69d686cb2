theorem hSX9_forget : yX9_forget.cls ≠ "java/lang/invoke/MethodHandle" ∧ yX9_forget.cls ≠ "java/lang/invoke/VarHandle" ∧ (parseMethodDescriptor yX9_forget.desc).map (fun d => d.parameters.length) = some 0 := by decide +kernel
theorem hVX9_forget : yX9_forget.cls = RX9 ∧ yX9_forget.cls ≠ "java/lang/invoke/MethodHandle" ∧ yX9_forget.cls ≠ "java/lang/invoke/VarHandle" ∧ (parseMethodDescriptor yX9_forget.desc).map (fun d => d.parameters.length) = some 0 := by decide +kernel
theorem vX9_forget_9 : ∀ w ∈ u_ws RX9 TX9 8, w ∈ wsX9_forget := by decide +kernel
theorem kX9_forget_9 : Cond.fieldLink RX9 9 (TX9 2).1 (TX9 2).2.1 (TX9 2).2.2.1 ∈ wsX9_forget := by decide +kernel
def mX9_forget (μ : rj_M) : rj_M := (rj_pi μ 47 2 0)
set_option maxHeartbeats 4000000 in
set_option maxRecDepth 100000 in
theorem sX9_forget {g : rj_G} {ω : rj_W} (hω : rj_ok ω) (μ : rj_M)   : rj_Sp g yX9_forget wsX9_forget (rj_rm 0 0) [.ref (ω.2.2 47)] ω μ (rj_D (.inl none) ω (mX9_forget μ)) := by
  refine rj_of' (cc := cX9_forget) (nL := 1) (ret := none) (own := RX9) (l0 := [(0, .ref (ω.2.2 47))]) rfl (by decide +kernel) rfl (Nat.le_of_ble_eq_true rfl) rfl ?_
  refine rj_aload_n 0 dX9_forget_0 rfl rfl ?_
  refine rj_iconst (v := 0) dX9_forget_1 rfl (by decide) ?_
  refine rj_putI (C0 := RX9) (T := TX9) (N := 8) (j := 2) dX9_forget_2 rfl vX9_forget_9 rfl (rj_lt hω (k := 47) rfl) (rj_sh hω ly_47) (by decide) kX9_forget_9 tyX9 tyX9_ok nmX9 rfl rfl (by decide) rfl ?_
  exact rj_vret dX9_forget_5 rfl (Nat.le_of_ble_eq_true rfl) (Nat.le_of_ble_eq_true rfl) ⟨rfl, rfl, (by unfold mX9_forget; rfl)⟩
theorem hSX9_isMet : yX9_isMet.cls ≠ "java/lang/invoke/MethodHandle" ∧ yX9_isMet.cls ≠ "java/lang/invoke/VarHandle" ∧ (parseMethodDescriptor yX9_isMet.desc).map (fun d => d.parameters.length) = some 3 := by decide +kernel
theorem hVX9_isMet : yX9_isMet.cls = RX9 ∧ yX9_isMet.cls ≠ "java/lang/invoke/MethodHandle" ∧ yX9_isMet.cls ≠ "java/lang/invoke/VarHandle" ∧ (parseMethodDescriptor yX9_isMet.desc).map (fun d => d.parameters.length) = some 3 := by decide +kernel
theorem vX9_isMet_9 : ∀ w ∈ u_ws RX9 TX9 8, w ∈ wsX9_isMet := by decide +kernel
theorem kX9_isMet_36 : Cond.fieldLink RX9 36 (TX9 1).1 (TX9 1).2.1 (TX9 1).2.2.1 ∈ wsX9_isMet := by decide +kernel
theorem kX9_isMet_32 : Cond.fieldLink RX9 32 (TX9 0).1 (TX9 0).2.1 (TX9 0).2.2.1 ∈ wsX9_isMet := by decide +kernel
def fX9_isMet (μ : rj_M) (a0 : Int32) (a1 : Int32) (a2 : Int32) : Int32 := (if (fX7_isOnIn μ a0 a1 a2) = 0 then 0 else (if (fX4_isInOpenAir μ (fX7_stageOf μ a0)) = 0 then 0 else 1))
set_option maxHeartbeats 4000000 in
set_option maxRecDepth 100000 in
theorem sX9_isMet {g : rj_G} {ω : rj_W} (hω : rj_ok ω) (μ : rj_M) (a0 : Int32) (a1 : Int32) (a2 : Int32)   : rj_Sp g yX9_isMet wsX9_isMet (rj_rm 3 0) [.ref (ω.2.2 47), .int a0, .int a1, .int a2] ω μ (rj_D (.inl (some (.int (fX9_isMet μ a0 a1 a2)))) ω μ) := by
  refine rj_of' (cc := cX9_isMet) (nL := 4) (ret := (some .boolean)) (own := RX9) (l0 := [(0, .ref (ω.2.2 47)), (1, .int a0), (2, .int a1), (3, .int a2)]) rfl (by decide +kernel) rfl (Nat.le_of_ble_eq_true rfl) rfl ?_
  refine rj_aload_n 0 dX9_isMet_0 rfl rfl ?_
  refine rj_getR (C0 := RX9) (T := TX9) (N := 8) (j := 1) (r := 8) dX9_isMet_1 rfl vX9_isMet_9 rfl (rj_lt hω (k := 47) rfl) (rj_sh hω ly_47) (by decide) kX9_isMet_36 rfl ?_
  refine rj_iload_n 1 dX9_isMet_4 rfl rfl ?_
  refine rj_iload_n 2 dX9_isMet_5 rfl rfl ?_
  refine rj_iload_n 3 dX9_isMet_6 rfl rfl ?_
  refine rj_cV (rest := []) (sX7_isOnIn (g := g) (ω := ω) hω μ a0 a1 a2   ) gX9_isMet_X7_isOnIn (rj_lt hω (k := 8) rfl) (rj_sh hω ly_8) rfl rfl hVX7_isOnIn ⟨Nat.le_of_ble_eq_true rfl, Nat.le_of_ble_eq_true rfl⟩ dX9_isMet_7 rfl rfl rfl (Nat.le_of_ble_eq_true rfl) rfl (Nat.le_of_ble_eq_true rfl) rfl ?_
  refine rj_if_eq dX9_isMet_10 rfl rfl (fun h1 => ?_) (fun h1 => ?_)
  · refine rj_iconst (v := 0) dX9_isMet_35 rfl (by decide) ?_
    exact rj_zret dX9_isMet_36 rfl rfl (Nat.le_of_ble_eq_true rfl) (Nat.le_of_ble_eq_true rfl) ⟨(by unfold fX9_isMet; rw [if_pos h1]; try rfl), rfl, rfl⟩
  · refine rj_aload_n 0 dX9_isMet_13 rfl rfl ?_
    refine rj_getR (C0 := RX9) (T := TX9) (N := 8) (j := 0) (r := 3) dX9_isMet_14 rfl vX9_isMet_9 rfl (rj_lt hω (k := 47) rfl) (rj_sh hω ly_47) (by decide) kX9_isMet_32 rfl ?_
    refine rj_aload_n 0 dX9_isMet_17 rfl rfl ?_
    refine rj_getR (C0 := RX9) (T := TX9) (N := 8) (j := 1) (r := 8) dX9_isMet_18 rfl vX9_isMet_9 rfl (rj_lt hω (k := 47) rfl) (rj_sh hω ly_47) (by decide) kX9_isMet_36 rfl ?_
    refine rj_iload_n 1 dX9_isMet_21 rfl rfl ?_
    refine rj_cV (rest := [.ref (ω.2.2 3)]) (sX7_stageOf (g := g) (ω := ω) hω μ a0   ) gX9_isMet_X7_stageOf (rj_lt hω (k := 8) rfl) (rj_sh hω ly_8) rfl rfl hVX7_stageOf ⟨Nat.le_of_ble_eq_true rfl, Nat.le_of_ble_eq_true rfl⟩ dX9_isMet_22 rfl rfl rfl (Nat.le_of_ble_eq_true rfl) rfl (Nat.le_of_ble_eq_true rfl) rfl ?_
    refine rj_cV (rest := []) (sX4_isInOpenAir (g := g) (ω := ω) hω μ (fX7_stageOf μ a0)   ) gX9_isMet_X4_isInOpenAir (rj_lt hω (k := 3) rfl) (rj_sh hω ly_3) rfl rfl hVX4_isInOpenAir ⟨Nat.le_of_ble_eq_true rfl, Nat.le_of_ble_eq_true rfl⟩ dX9_isMet_25 rfl rfl rfl (Nat.le_of_ble_eq_true rfl) rfl (Nat.le_of_ble_eq_true rfl) rfl ?_
    refine rj_if_eq dX9_isMet_28 rfl rfl (fun h2 => ?_) (fun h2 => ?_)
    · refine rj_iconst (v := 0) dX9_isMet_35 rfl (by decide) ?_
      exact rj_zret dX9_isMet_36 rfl rfl (Nat.le_of_ble_eq_true rfl) (Nat.le_of_ble_eq_true rfl) ⟨(by unfold fX9_isMet; rw [if_neg h1]; rw [if_pos h2]; try rfl), rfl, rfl⟩
    · refine rj_iconst (v := 1) dX9_isMet_31 rfl (by decide) ?_
      refine rj_goto dX9_isMet_32 rfl ?_
      exact rj_zret dX9_isMet_36 rfl rfl (Nat.le_of_ble_eq_true rfl) (Nat.le_of_ble_eq_true rfl) ⟨(by unfold fX9_isMet; rw [if_neg h1]; rw [if_neg h2]; try rfl), rfl, rfl⟩
theorem nX9_isMet (μ : rj_M) (a0 : Int32) (a1 : Int32) (a2 : Int32) : narrow .boolean (.int (fX9_isMet μ a0 a1 a2)) = .int (fX9_isMet μ a0 a1 a2) := by
  unfold fX9_isMet
  split
  · rfl
  · split
    · rfl
    · rfl
theorem hSX9_countMet : yX9_countMet.cls ≠ "java/lang/invoke/MethodHandle" ∧ yX9_countMet.cls ≠ "java/lang/invoke/VarHandle" ∧ (parseMethodDescriptor yX9_countMet.desc).map (fun d => d.parameters.length) = some 2 := by decide +kernel
theorem hVX9_countMet : yX9_countMet.cls = RX9 ∧ yX9_countMet.cls ≠ "java/lang/invoke/MethodHandle" ∧ yX9_countMet.cls ≠ "java/lang/invoke/VarHandle" ∧ (parseMethodDescriptor yX9_countMet.desc).map (fun d => d.parameters.length) = some 2 := by decide +kernel
def bX9_countMet_5 (μ : rj_M) (a0 : Int32) (a1 : Int32) (j5 : Nat) (s5 : Int32) : Int32 := (if (fX9_isMet μ (nI j5) a0 a1) = 0 then s5 else (s5 + 1))
set_option maxHeartbeats 4000000 in
set_option maxRecDepth 100000 in
theorem lX9_countMet_5 {g : rj_G} {ω : rj_W} (hω : rj_ok ω) (μ : rj_M) (a0 : Int32) (a1 : Int32)     {F : rj_F} : ∀ (r j : Nat) (s : Int32), j + r = 16 → (rj_R g RX9 cX9_countMet 5 (some .int) wsX9_countMet [] (rj_rm 4 0) F 0 ω μ [(0, .ref (ω.2.2 47)), (1, .int a0), (2, .int a1), (3, .int (rj_fo (bX9_countMet_5 μ a0 a1) r j s)), (4, .int (nI 16))] 32 []) → rj_R g RX9 cX9_countMet 5 (some .int) wsX9_countMet [] (rj_rm 4 0) F 0 ω μ [(0, .ref (ω.2.2 47)), (1, .int a0), (2, .int a1), (3, .int s), (4, .int (nI j))] 5 [] := by
  intro r
  induction r with
  | zero =>
    intro j s hj K
    have e0 : j = 16 := by omega
    have hge : 16 ≤ nI j := by
      rw [e0]
      exact Int32.le_refl _
    refine rj_iload 4 dX9_countMet_5 rfl rfl ?_
    refine rj_bipush (v := 16) dX9_countMet_7 rfl (by decide) ?_
    refine rj_icmp_ge dX9_countMet_9 rfl rfl (fun h3 => ?_) (fun h3 => ?_)
    · have e1 : nI j = nI 16 := by rw [e0]
      rw [e1]
      exact K
    · exact absurd hge h3
  | succ r ih =>
    intro j5 s5 hj K
    have hl5 : j5 < 16 := by omega
    have hg5 : ¬ 16 ≤ nI j5 := nI_ge hl5 (rj_bl rfl)
    refine rj_iload 4 dX9_countMet_5 rfl rfl ?_
    refine rj_bipush (v := 16) dX9_countMet_7 rfl (by decide) ?_
    refine rj_icmp_ge dX9_countMet_9 rfl rfl (fun h1 => ?_) (fun h1 => ?_)
    · exact absurd h1 hg5
    · refine rj_aload_n 0 dX9_countMet_12 rfl rfl ?_
      refine rj_iload 4 dX9_countMet_13 rfl rfl ?_
      refine rj_iload_n 1 dX9_countMet_15 rfl rfl ?_
      refine rj_iload_n 2 dX9_countMet_16 rfl rfl ?_
      refine rj_cV (rest := []) (sX9_isMet (g := g) (ω := ω) hω μ (nI j5) a0 a1   ) gX9_countMet_X9_isMet (rj_lt hω (k := 47) rfl) (rj_sh hω ly_47) rfl rfl hVX9_isMet ⟨Nat.le_of_ble_eq_true rfl, Nat.le_of_ble_eq_true rfl⟩ dX9_countMet_17 rfl rfl rfl (Nat.le_of_ble_eq_true rfl) rfl (Nat.le_of_ble_eq_true rfl) rfl ?_
      refine rj_if_eq dX9_countMet_20 rfl rfl (fun h2 => ?_) (fun h2 => ?_)
      · refine rj_iinc (v := nI (j5 + 1)) (l' := [(4, .int (nI (j5 + 1))), (0, .ref (ω.2.2 47)), (1, .int a0), (2, .int a1), (3, .int s5)]) 4 dX9_countMet_26 rfl rfl (nI_succ j5).symm (rj_bl rfl) rfl ?_
        refine rj_goto dX9_countMet_29 rfl ?_
        have e : bX9_countMet_5 μ a0 a1 j5 s5 = s5 := by unfold bX9_countMet_5; rw [if_pos h2]; try rfl
        exact rj_sub (l' := [(0, .ref (ω.2.2 47)), (1, .int a0), (2, .int a1), (3, .int s5), (4, .int (nI (j5 + 1)))]) [1, 2, 3, 4, 0] rfl (ih (j5 + 1) s5 (by omega) (by rw [rj_fo_s, e] at K; exact K))
      · refine rj_iinc (v := s5 + 1) (l' := [(3, .int (s5 + 1)), (0, .ref (ω.2.2 47)), (1, .int a0), (2, .int a1), (4, .int (nI j5))]) 3 dX9_countMet_23 rfl rfl rfl (rj_bl rfl) rfl ?_
        refine rj_iinc (v := nI (j5 + 1)) (l' := [(4, .int (nI (j5 + 1))), (3, .int (s5 + 1)), (0, .ref (ω.2.2 47)), (1, .int a0), (2, .int a1)]) 4 dX9_countMet_26 rfl rfl (nI_succ j5).symm (rj_bl rfl) rfl ?_
        refine rj_goto dX9_countMet_29 rfl ?_
        have e : bX9_countMet_5 μ a0 a1 j5 s5 = (s5 + 1) := by unfold bX9_countMet_5; rw [if_neg h2]; try rfl
        exact rj_sub (l' := [(0, .ref (ω.2.2 47)), (1, .int a0), (2, .int a1), (3, .int (s5 + 1)), (4, .int (nI (j5 + 1)))]) [2, 3, 4, 1, 0] rfl (ih (j5 + 1) (s5 + 1) (by omega) (by rw [rj_fo_s, e] at K; exact K))
def fX9_countMet (μ : rj_M) (a0 : Int32) (a1 : Int32) : Int32 := (rj_fo (bX9_countMet_5 μ a0 a1) 16 0 0)
set_option maxHeartbeats 4000000 in
set_option maxRecDepth 100000 in
theorem sX9_countMet {g : rj_G} {ω : rj_W} (hω : rj_ok ω) (μ : rj_M) (a0 : Int32) (a1 : Int32)   : rj_Sp g yX9_countMet wsX9_countMet (rj_rm 4 0) [.ref (ω.2.2 47), .int a0, .int a1] ω μ (rj_D (.inl (some (.int (fX9_countMet μ a0 a1)))) ω μ) := by
  refine rj_of' (cc := cX9_countMet) (nL := 5) (ret := (some .int)) (own := RX9) (l0 := [(0, .ref (ω.2.2 47)), (1, .int a0), (2, .int a1)]) rfl (by decide +kernel) rfl (Nat.le_of_ble_eq_true rfl) rfl ?_
  refine rj_iconst (v := 0) dX9_countMet_0 rfl (by decide) ?_
  refine rj_istore_n (l' := [(3, .int 0), (0, .ref (ω.2.2 47)), (1, .int a0), (2, .int a1)]) dX9_countMet_1 rfl (rj_bl rfl) rfl ?_
  refine rj_iconst (v := 0) dX9_countMet_2 rfl (by decide) ?_
  refine rj_istore (l' := [(4, .int 0), (3, .int 0), (0, .ref (ω.2.2 47)), (1, .int a0), (2, .int a1)]) dX9_countMet_3 rfl (rj_bl rfl) rfl ?_
  refine rj_sub (l' := [(0, .ref (ω.2.2 47)), (1, .int a0), (2, .int a1), (3, .int 0), (4, .int (nI 0))]) [2, 3, 4, 1, 0] rfl ?_
  refine lX9_countMet_5 hω μ a0 a1     16 0 0 rfl ?_
  refine rj_iload_n 3 dX9_countMet_32 rfl rfl ?_
  exact rj_iret dX9_countMet_33 rfl (Nat.le_of_ble_eq_true rfl) (Nat.le_of_ble_eq_true rfl) ⟨(by unfold fX9_countMet; rfl), rfl, rfl⟩
theorem hSX9_hasRoom : yX9_hasRoom.cls ≠ "java/lang/invoke/MethodHandle" ∧ yX9_hasRoom.cls ≠ "java/lang/invoke/VarHandle" ∧ (parseMethodDescriptor yX9_hasRoom.desc).map (fun d => d.parameters.length) = some 2 := by decide +kernel
theorem hVX9_hasRoom : yX9_hasRoom.cls = RX9 ∧ yX9_hasRoom.cls ≠ "java/lang/invoke/MethodHandle" ∧ yX9_hasRoom.cls ≠ "java/lang/invoke/VarHandle" ∧ (parseMethodDescriptor yX9_hasRoom.desc).map (fun d => d.parameters.length) = some 2 := by decide +kernel
theorem vX9_hasRoom_9 : ∀ w ∈ u_ws RX9 TX9 8, w ∈ wsX9_hasRoom := by decide +kernel
theorem kX9_hasRoom_32 : Cond.fieldLink RX9 32 (TX9 0).1 (TX9 0).2.1 (TX9 0).2.2.1 ∈ wsX9_hasRoom := by decide +kernel
theorem kX9_hasRoom_36 : Cond.fieldLink RX9 36 (TX9 1).1 (TX9 1).2.1 (TX9 1).2.2.1 ∈ wsX9_hasRoom := by decide +kernel
theorem kX9_hasRoom_19 : Cond.fieldLink RX9 19 (TX9 4).1 (TX9 4).2.1 (TX9 4).2.2.1 ∈ wsX9_hasRoom := by decide +kernel
theorem kX9_hasRoom_26 : Cond.fieldLink RX9 26 (TX9 6).1 (TX9 6).2.1 (TX9 6).2.2.1 ∈ wsX9_hasRoom := by decide +kernel
def bX9_hasRoom_25 (μ : rj_M) (a0 : Int32) (a1 : Int32) (j25 : Nat) (s25 : Unit) : Unit ⊕ Unit := (if (fX7_stageOf μ (nI j25)) = a0 then (if (fX7_doPiecesMeet μ (μ.1 49 a1.toNatClampNeg) (nI j25)) = 0 then .inl () else .inr ()) else .inl ())
set_option maxHeartbeats 4000000 in
set_option maxRecDepth 100000 in
theorem lX9_hasRoom_25 {g : rj_G} {ω : rj_W} (hω : rj_ok ω) (μ : rj_M) (a0 : Int32) (a1 : Int32)    (h1 : ((fX4_isInOpenAir μ a0) = 0)) (h2 : ¬ (a1 < 0)) (h3 : (a1 < 6)) {P : rj_P} : ∀ (r j : Nat) (s : Unit), j + r = 16 → (∀ z : Unit, rj_ix (bX9_hasRoom_25 μ a0 a1) r j s = .inl z → rj_R g RX9 cX9_hasRoom 4 (some .boolean) wsX9_hasRoom [] (rj_rm 3 0) (rj_E g (rj_rm 3 0) P) 0 ω μ [(0, .ref (ω.2.2 47)), (1, .int a0), (2, .int a1), (3, .int (nI 16))] 68 []) → (∀ z : Unit, rj_ix (bX9_hasRoom_25 μ a0 a1) r j s = .inr z → P (.inl (some (.int 0))) ω μ) → rj_R g RX9 cX9_hasRoom 4 (some .boolean) wsX9_hasRoom [] (rj_rm 3 0) (rj_E g (rj_rm 3 0) P) 0 ω μ [(0, .ref (ω.2.2 47)), (1, .int a0), (2, .int a1), (3, .int (nI j))] 25 [] := by
  intro r
  induction r with
  | zero =>
    intro j s hj K K2
    have e0 : j = 16 := by omega
    have hge : 16 ≤ nI j := by
      rw [e0]
      exact Int32.le_refl _
    refine rj_iload_n 3 dX9_hasRoom_25 rfl rfl ?_
    refine rj_bipush (v := 16) dX9_hasRoom_26 rfl (by decide) ?_
    refine rj_icmp_ge dX9_hasRoom_28 rfl rfl (fun h7 => ?_) (fun h7 => ?_)
    · have e1 : nI j = nI 16 := by rw [e0]
      rw [e1]
      exact K s rfl
    · exact absurd hge h7
  | succ r ih =>
    intro j25 s25 hj K K2
    have hl25 : j25 < 16 := by omega
    have hg25 : ¬ 16 ≤ nI j25 := nI_ge hl25 (rj_bl rfl)
    refine rj_iload_n 3 dX9_hasRoom_25 rfl rfl ?_
    refine rj_bipush (v := 16) dX9_hasRoom_26 rfl (by decide) ?_
    refine rj_icmp_ge dX9_hasRoom_28 rfl rfl (fun h4 => ?_) (fun h4 => ?_)
    · exact absurd h4 hg25
    · refine rj_aload_n 0 dX9_hasRoom_31 rfl rfl ?_
      refine rj_getR (C0 := RX9) (T := TX9) (N := 8) (j := 1) (r := 8) dX9_hasRoom_32 rfl vX9_hasRoom_9 rfl (rj_lt hω (k := 47) rfl) (rj_sh hω ly_47) (by decide) kX9_hasRoom_36 rfl ?_
      refine rj_iload_n 3 dX9_hasRoom_35 rfl rfl ?_
      refine rj_cV (rest := []) (sX7_stageOf (g := g) (ω := ω) hω μ (nI j25)   ) gX9_hasRoom_X7_stageOf (rj_lt hω (k := 8) rfl) (rj_sh hω ly_8) rfl rfl hVX7_stageOf ⟨Nat.le_of_ble_eq_true rfl, Nat.le_of_ble_eq_true rfl⟩ dX9_hasRoom_36 rfl rfl rfl (Nat.le_of_ble_eq_true rfl) rfl (Nat.le_of_ble_eq_true rfl) rfl ?_
      refine rj_iload_n 1 dX9_hasRoom_39 rfl rfl ?_
      refine rj_icmp_ne dX9_hasRoom_40 rfl rfl (fun h5 => ?_) (fun h5 => ?_)
      · refine rj_iinc (v := nI (j25 + 1)) (l' := [(3, .int (nI (j25 + 1))), (0, .ref (ω.2.2 47)), (1, .int a0), (2, .int a1)]) 3 dX9_hasRoom_62 rfl rfl (nI_succ j25).symm (rj_bl rfl) rfl ?_
        refine rj_goto dX9_hasRoom_65 rfl ?_
        have e : bX9_hasRoom_25 μ a0 a1 j25 s25 = .inl () := by unfold bX9_hasRoom_25; rw [if_neg h5]; try rfl
        exact rj_sub (l' := [(0, .ref (ω.2.2 47)), (1, .int a0), (2, .int a1), (3, .int (nI (j25 + 1)))]) [1, 2, 3, 0] rfl (ih (j25 + 1) () (by omega) (fun z hz => K z (by rw [rj_ix_l e]; exact hz)) (fun z hz => K2 z (by rw [rj_ix_l e]; exact hz)))
      · refine rj_aload_n 0 dX9_hasRoom_43 rfl rfl ?_
        refine rj_getR (C0 := RX9) (T := TX9) (N := 8) (j := 1) (r := 8) dX9_hasRoom_44 rfl vX9_hasRoom_9 rfl (rj_lt hω (k := 47) rfl) (rj_sh hω ly_47) (by decide) kX9_hasRoom_36 rfl ?_
        refine rj_aload_n 0 dX9_hasRoom_47 rfl rfl ?_
        refine rj_getR (C0 := RX9) (T := TX9) (N := 8) (j := 4) (r := 49) dX9_hasRoom_48 rfl vX9_hasRoom_9 rfl (rj_lt hω (k := 47) rfl) (rj_sh hω ly_47) (by decide) kX9_hasRoom_19 rfl ?_
        refine rj_iload_n 2 dX9_hasRoom_51 rfl rfl ?_
        refine rj_iald dX9_hasRoom_52 rfl (rj_lt hω (k := 49) rfl) (rj_sh hω ly_49) (rj_in h2 (Int32.not_le.mpr h3) rfl) ?_
        refine rj_iload_n 3 dX9_hasRoom_53 rfl rfl ?_
        refine rj_cV (rest := []) (sX7_doPiecesMeet (g := g) (ω := ω) hω μ (μ.1 49 a1.toNatClampNeg) (nI j25)   ) gX9_hasRoom_X7_doPiecesMeet (rj_lt hω (k := 8) rfl) (rj_sh hω ly_8) rfl rfl hVX7_doPiecesMeet ⟨Nat.le_of_ble_eq_true rfl, Nat.le_of_ble_eq_true rfl⟩ dX9_hasRoom_54 rfl rfl rfl (Nat.le_of_ble_eq_true rfl) rfl (Nat.le_of_ble_eq_true rfl) rfl ?_
        refine rj_if_eq dX9_hasRoom_57 rfl rfl (fun h6 => ?_) (fun h6 => ?_)
        · refine rj_iinc (v := nI (j25 + 1)) (l' := [(3, .int (nI (j25 + 1))), (0, .ref (ω.2.2 47)), (1, .int a0), (2, .int a1)]) 3 dX9_hasRoom_62 rfl rfl (nI_succ j25).symm (rj_bl rfl) rfl ?_
          refine rj_goto dX9_hasRoom_65 rfl ?_
          have e : bX9_hasRoom_25 μ a0 a1 j25 s25 = .inl () := by unfold bX9_hasRoom_25; rw [if_pos h5]; rw [if_pos h6]; try rfl
          exact rj_sub (l' := [(0, .ref (ω.2.2 47)), (1, .int a0), (2, .int a1), (3, .int (nI (j25 + 1)))]) [1, 2, 3, 0] rfl (ih (j25 + 1) () (by omega) (fun z hz => K z (by rw [rj_ix_l e]; exact hz)) (fun z hz => K2 z (by rw [rj_ix_l e]; exact hz)))
        · refine rj_iconst (v := 0) dX9_hasRoom_60 rfl (by decide) ?_
          have e : bX9_hasRoom_25 μ a0 a1 j25 s25 = .inr () := by unfold bX9_hasRoom_25; rw [if_pos h5]; rw [if_neg h6]; try rfl
          exact rj_zret dX9_hasRoom_61 rfl rfl (Nat.le_of_ble_eq_true rfl) (Nat.le_of_ble_eq_true rfl) (K2 () (rj_ix_r e))
def bX9_hasRoom_70 (μ : rj_M) (a0 : Int32) (a1 : Int32) (j70 : Nat) (s70 : Unit) : Unit ⊕ Unit := (if (μ.1 50 (nI j70).toNatClampNeg) = a0 then (if (fX7_doPiecesMeet μ (μ.1 49 a1.toNatClampNeg) (μ.1 49 (nI j70).toNatClampNeg)) = 0 then .inl () else .inr ()) else .inl ())
set_option maxHeartbeats 4000000 in
set_option maxRecDepth 100000 in
theorem lX9_hasRoom_70 {g : rj_G} {ω : rj_W} (hω : rj_ok ω) (μ : rj_M) (a0 : Int32) (a1 : Int32)    (h1 : ((fX4_isInOpenAir μ a0) = 0)) (h2 : ¬ (a1 < 0)) (h3 : (a1 < 6)) {P : rj_P} : ∀ (r j : Nat) (s : Unit), r = a1.toInt.toNat - j → j < 2 ^ 31 → (∀ z : Unit, rj_ix (bX9_hasRoom_70 μ a0 a1) r j s = .inl z → rj_R g RX9 cX9_hasRoom 4 (some .boolean) wsX9_hasRoom [] (rj_rm 3 0) (rj_E g (rj_rm 3 0) P) 0 ω μ [(0, .ref (ω.2.2 47)), (1, .int a0), (2, .int a1)] 115 []) → (∀ z : Unit, rj_ix (bX9_hasRoom_70 μ a0 a1) r j s = .inr z → P (.inl (some (.int 0))) ω μ) → rj_R g RX9 cX9_hasRoom 4 (some .boolean) wsX9_hasRoom [] (rj_rm 3 0) (rj_E g (rj_rm 3 0) P) 0 ω μ [(0, .ref (ω.2.2 47)), (1, .int a0), (2, .int a1), (3, .int (nI j))] 70 [] := by
  intro r
  induction r with
  | zero =>
    intro j s hj hJ K K2
    have e0 : a1.toInt.toNat ≤ j := by omega
    have hge : a1 ≤ nI j := (rj_leN hJ).mpr e0
    refine rj_iload_n 3 dX9_hasRoom_70 rfl rfl ?_
    refine rj_iload_n 2 dX9_hasRoom_71 rfl rfl ?_
    refine rj_icmp_ge dX9_hasRoom_72 rfl rfl (fun h11 => ?_) (fun h11 => ?_)
    · refine rj_sub (l' := [(0, .ref (ω.2.2 47)), (1, .int a0), (2, .int a1)]) [0, 1, 2] rfl ?_
      exact K s rfl
    · exact absurd hge h11
  | succ r ih =>
    intro j70 s70 hj hJ K K2
    have hl70 : j70 < a1.toInt.toNat := by omega
    have hg70 : ¬ a1 ≤ nI j70 := fun z => absurd ((rj_leN hJ).mp z) (by omega)
    have hN := rj_tN a1
    refine rj_iload_n 3 dX9_hasRoom_70 rfl rfl ?_
    refine rj_iload_n 2 dX9_hasRoom_71 rfl rfl ?_
    refine rj_icmp_ge dX9_hasRoom_72 rfl rfl (fun h8 => ?_) (fun h8 => ?_)
    · exact absurd h8 hg70
    · refine rj_aload_n 0 dX9_hasRoom_75 rfl rfl ?_
      refine rj_getR (C0 := RX9) (T := TX9) (N := 8) (j := 6) (r := 50) dX9_hasRoom_76 rfl vX9_hasRoom_9 rfl (rj_lt hω (k := 47) rfl) (rj_sh hω ly_47) (by decide) kX9_hasRoom_26 rfl ?_
      refine rj_iload_n 3 dX9_hasRoom_79 rfl rfl ?_
      refine rj_iald dX9_hasRoom_80 rfl (rj_lt hω (k := 50) rfl) (rj_sh hω ly_50) (vp_in_nI (by have z1 := Int32.lt_iff_toInt_lt.mp h3; have z2 : (6 : Int32).toInt = 6 := rfl; have z3 := hl70; omega) (rj_bl rfl)) ?_
      refine rj_iload_n 1 dX9_hasRoom_81 rfl rfl ?_
      refine rj_icmp_ne dX9_hasRoom_82 rfl rfl (fun h9 => ?_) (fun h9 => ?_)
      · refine rj_iinc (v := nI (j70 + 1)) (l' := [(3, .int (nI (j70 + 1))), (0, .ref (ω.2.2 47)), (1, .int a0), (2, .int a1)]) 3 dX9_hasRoom_109 rfl rfl (nI_succ j70).symm (rj_bl rfl) rfl ?_
        refine rj_goto dX9_hasRoom_112 rfl ?_
        have e : bX9_hasRoom_70 μ a0 a1 j70 s70 = .inl () := by unfold bX9_hasRoom_70; rw [if_neg h9]; try rfl
        exact rj_sub (l' := [(0, .ref (ω.2.2 47)), (1, .int a0), (2, .int a1), (3, .int (nI (j70 + 1)))]) [1, 2, 3, 0] rfl (ih (j70 + 1) () (by omega) (by omega) (fun z hz => K z (by rw [rj_ix_l e]; exact hz)) (fun z hz => K2 z (by rw [rj_ix_l e]; exact hz)))
      · refine rj_aload_n 0 dX9_hasRoom_85 rfl rfl ?_
        refine rj_getR (C0 := RX9) (T := TX9) (N := 8) (j := 1) (r := 8) dX9_hasRoom_86 rfl vX9_hasRoom_9 rfl (rj_lt hω (k := 47) rfl) (rj_sh hω ly_47) (by decide) kX9_hasRoom_36 rfl ?_
        refine rj_aload_n 0 dX9_hasRoom_89 rfl rfl ?_
        refine rj_getR (C0 := RX9) (T := TX9) (N := 8) (j := 4) (r := 49) dX9_hasRoom_90 rfl vX9_hasRoom_9 rfl (rj_lt hω (k := 47) rfl) (rj_sh hω ly_47) (by decide) kX9_hasRoom_19 rfl ?_
        refine rj_iload_n 2 dX9_hasRoom_93 rfl rfl ?_
        refine rj_iald dX9_hasRoom_94 rfl (rj_lt hω (k := 49) rfl) (rj_sh hω ly_49) (rj_in h2 (Int32.not_le.mpr h3) rfl) ?_
        refine rj_aload_n 0 dX9_hasRoom_95 rfl rfl ?_
        refine rj_getR (C0 := RX9) (T := TX9) (N := 8) (j := 4) (r := 49) dX9_hasRoom_96 rfl vX9_hasRoom_9 rfl (rj_lt hω (k := 47) rfl) (rj_sh hω ly_47) (by decide) kX9_hasRoom_19 rfl ?_
        refine rj_iload_n 3 dX9_hasRoom_99 rfl rfl ?_
        refine rj_iald dX9_hasRoom_100 rfl (rj_lt hω (k := 49) rfl) (rj_sh hω ly_49) (vp_in_nI (by have z1 := Int32.lt_iff_toInt_lt.mp h3; have z2 : (6 : Int32).toInt = 6 := rfl; have z3 := hl70; omega) (rj_bl rfl)) ?_
        refine rj_cV (rest := []) (sX7_doPiecesMeet (g := g) (ω := ω) hω μ (μ.1 49 a1.toNatClampNeg) (μ.1 49 (nI j70).toNatClampNeg)   ) gX9_hasRoom_X7_doPiecesMeet (rj_lt hω (k := 8) rfl) (rj_sh hω ly_8) rfl rfl hVX7_doPiecesMeet ⟨Nat.le_of_ble_eq_true rfl, Nat.le_of_ble_eq_true rfl⟩ dX9_hasRoom_101 rfl rfl rfl (Nat.le_of_ble_eq_true rfl) rfl (Nat.le_of_ble_eq_true rfl) rfl ?_
        refine rj_if_eq dX9_hasRoom_104 rfl rfl (fun h10 => ?_) (fun h10 => ?_)
        · refine rj_iinc (v := nI (j70 + 1)) (l' := [(3, .int (nI (j70 + 1))), (0, .ref (ω.2.2 47)), (1, .int a0), (2, .int a1)]) 3 dX9_hasRoom_109 rfl rfl (nI_succ j70).symm (rj_bl rfl) rfl ?_
          refine rj_goto dX9_hasRoom_112 rfl ?_
          have e : bX9_hasRoom_70 μ a0 a1 j70 s70 = .inl () := by unfold bX9_hasRoom_70; rw [if_pos h9]; rw [if_pos h10]; try rfl
          exact rj_sub (l' := [(0, .ref (ω.2.2 47)), (1, .int a0), (2, .int a1), (3, .int (nI (j70 + 1)))]) [1, 2, 3, 0] rfl (ih (j70 + 1) () (by omega) (by omega) (fun z hz => K z (by rw [rj_ix_l e]; exact hz)) (fun z hz => K2 z (by rw [rj_ix_l e]; exact hz)))
        · refine rj_iconst (v := 0) dX9_hasRoom_107 rfl (by decide) ?_
          have e : bX9_hasRoom_70 μ a0 a1 j70 s70 = .inr () := by unfold bX9_hasRoom_70; rw [if_pos h9]; rw [if_neg h10]; try rfl
          exact rj_zret dX9_hasRoom_108 rfl rfl (Nat.le_of_ble_eq_true rfl) (Nat.le_of_ble_eq_true rfl) (K2 () (rj_ix_r e))
def fX9_hasRoom (μ : rj_M) (a0 : Int32) (a1 : Int32) : Int32 := (if (fX4_isInOpenAir μ a0) = 0 then (if a1 < 0 then 0 else (if a1 < 6 then (Sum.elim (fun z25 => (Sum.elim (fun z70 => 1) (fun w70 => 0) (rj_ix (bX9_hasRoom_70 μ a0 a1) (a1.toInt.toNat - 0) 0 ()))) (fun w25 => 0) (rj_ix (bX9_hasRoom_25 μ a0 a1) 16 0 ())) else 0)) else 0)
set_option maxHeartbeats 4000000 in
set_option maxRecDepth 100000 in
theorem sX9_hasRoom {g : rj_G} {ω : rj_W} (hω : rj_ok ω) (μ : rj_M) (a0 : Int32) (a1 : Int32)   : rj_Sp g yX9_hasRoom wsX9_hasRoom (rj_rm 3 0) [.ref (ω.2.2 47), .int a0, .int a1] ω μ (rj_D (.inl (some (.int (fX9_hasRoom μ a0 a1)))) ω μ) := by
  refine rj_of' (cc := cX9_hasRoom) (nL := 4) (ret := (some .boolean)) (own := RX9) (l0 := [(0, .ref (ω.2.2 47)), (1, .int a0), (2, .int a1)]) rfl (by decide +kernel) rfl (Nat.le_of_ble_eq_true rfl) rfl ?_
  refine rj_aload_n 0 dX9_hasRoom_0 rfl rfl ?_
  refine rj_getR (C0 := RX9) (T := TX9) (N := 8) (j := 0) (r := 3) dX9_hasRoom_1 rfl vX9_hasRoom_9 rfl (rj_lt hω (k := 47) rfl) (rj_sh hω ly_47) (by decide) kX9_hasRoom_32 rfl ?_
  refine rj_iload_n 1 dX9_hasRoom_4 rfl rfl ?_
  refine rj_cV (rest := []) (sX4_isInOpenAir (g := g) (ω := ω) hω μ a0   ) gX9_hasRoom_X4_isInOpenAir (rj_lt hω (k := 3) rfl) (rj_sh hω ly_3) rfl rfl hVX4_isInOpenAir ⟨Nat.le_of_ble_eq_true rfl, Nat.le_of_ble_eq_true rfl⟩ dX9_hasRoom_5 rfl rfl rfl (Nat.le_of_ble_eq_true rfl) rfl (Nat.le_of_ble_eq_true rfl) rfl ?_
  refine rj_if_ne dX9_hasRoom_8 rfl rfl (fun h1 => ?_) (fun h1 => ?_)
  · refine rj_iconst (v := 0) dX9_hasRoom_21 rfl (by decide) ?_
    exact rj_zret dX9_hasRoom_22 rfl rfl (Nat.le_of_ble_eq_true rfl) (Nat.le_of_ble_eq_true rfl) ⟨(by unfold fX9_hasRoom; rw [if_neg h1]; try rfl), rfl, rfl⟩
  · refine rj_iload_n 2 dX9_hasRoom_11 rfl rfl ?_
    refine rj_if_lt dX9_hasRoom_12 rfl rfl (fun h2 => ?_) (fun h2 => ?_)
    · refine rj_iconst (v := 0) dX9_hasRoom_21 rfl (by decide) ?_
      exact rj_zret dX9_hasRoom_22 rfl rfl (Nat.le_of_ble_eq_true rfl) (Nat.le_of_ble_eq_true rfl) ⟨(by unfold fX9_hasRoom; rw [if_pos h1]; rw [if_pos h2]; try rfl), rfl, rfl⟩
    · refine rj_iload_n 2 dX9_hasRoom_15 rfl rfl ?_
      refine rj_bipush (v := 6) dX9_hasRoom_16 rfl (by decide) ?_
      refine rj_icmp_lt dX9_hasRoom_18 rfl rfl (fun h3 => ?_) (fun h3 => ?_)
      · refine rj_iconst (v := 0) dX9_hasRoom_23 rfl (by decide) ?_
        refine rj_istore_n (l' := [(3, .int 0), (0, .ref (ω.2.2 47)), (1, .int a0), (2, .int a1)]) dX9_hasRoom_24 rfl (rj_bl rfl) rfl ?_
        refine rj_sub (l' := [(0, .ref (ω.2.2 47)), (1, .int a0), (2, .int a1), (3, .int (nI 0))]) [1, 2, 3, 0] rfl ?_
        refine lX9_hasRoom_25 hω μ a0 a1    h1 h2 h3 16 0 () rfl (fun z25 hz25 => ?_) (fun w25 hw25 => ?_)
        · refine rj_iconst (v := 0) dX9_hasRoom_68 rfl (by decide) ?_
          refine rj_istore_n (l' := [(3, .int 0), (0, .ref (ω.2.2 47)), (1, .int a0), (2, .int a1)]) dX9_hasRoom_69 rfl (rj_bl rfl) rfl ?_
          refine rj_sub (l' := [(0, .ref (ω.2.2 47)), (1, .int a0), (2, .int a1), (3, .int (nI 0))]) [1, 2, 3, 0] rfl ?_
          refine lX9_hasRoom_70 hω μ a0 a1    h1 h2 h3 (a1.toInt.toNat - 0) 0 () rfl (rj_bl rfl) (fun z70 hz70 => ?_) (fun w70 hw70 => ?_)
          · refine rj_iconst (v := 1) dX9_hasRoom_115 rfl (by decide) ?_
            exact rj_zret dX9_hasRoom_116 rfl rfl (Nat.le_of_ble_eq_true rfl) (Nat.le_of_ble_eq_true rfl) ⟨(by unfold fX9_hasRoom; rw [if_pos h1]; rw [if_neg h2]; rw [if_pos h3]; rw [hz25]; simp only [Sum.elim_inl]; rw [hz70]; simp only [Sum.elim_inl]; try rfl), rfl, rfl⟩
          · exact ⟨(by unfold fX9_hasRoom; rw [if_pos h1]; rw [if_neg h2]; rw [if_pos h3]; rw [hz25]; simp only [Sum.elim_inl]; rw [hw70]; simp only [Sum.elim_inr]; try rfl), rfl, rfl⟩
        · exact ⟨(by unfold fX9_hasRoom; rw [if_pos h1]; rw [if_neg h2]; rw [if_pos h3]; rw [hw25]; simp only [Sum.elim_inr]; try rfl), rfl, rfl⟩
      · refine rj_iconst (v := 0) dX9_hasRoom_21 rfl (by decide) ?_
        exact rj_zret dX9_hasRoom_22 rfl rfl (Nat.le_of_ble_eq_true rfl) (Nat.le_of_ble_eq_true rfl) ⟨(by unfold fX9_hasRoom; rw [if_pos h1]; rw [if_neg h2]; rw [if_neg h3]; try rfl), rfl, rfl⟩
theorem nX9_hasRoom (μ : rj_M) (a0 : Int32) (a1 : Int32) : narrow .boolean (.int (fX9_hasRoom μ a0 a1)) = .int (fX9_hasRoom μ a0 a1) := by
  unfold fX9_hasRoom
  split
  · split
    · rfl
    · split
      · generalize (rj_ix (bX9_hasRoom_25 μ a0 a1) 16 0 ()) = x
        cases x with
        | inl z25 =>
          simp only [Sum.elim_inl]
          generalize (rj_ix (bX9_hasRoom_70 μ a0 a1) (a1.toInt.toNat - 0) 0 ()) = x
          cases x with
          | inl z70 =>
            simp only [Sum.elim_inl]
            rfl
          | inr w70 =>
            simp only [Sum.elim_inr]
            rfl
        | inr w25 =>
          simp only [Sum.elim_inr]
          rfl
      · rfl
  · rfl
theorem hSX9_keepTried : yX9_keepTried.cls ≠ "java/lang/invoke/MethodHandle" ∧ yX9_keepTried.cls ≠ "java/lang/invoke/VarHandle" ∧ (parseMethodDescriptor yX9_keepTried.desc).map (fun d => d.parameters.length) = some 1 := by decide +kernel
theorem hVX9_keepTried : yX9_keepTried.cls = RX9 ∧ yX9_keepTried.cls ≠ "java/lang/invoke/MethodHandle" ∧ yX9_keepTried.cls ≠ "java/lang/invoke/VarHandle" ∧ (parseMethodDescriptor yX9_keepTried.desc).map (fun d => d.parameters.length) = some 1 := by decide +kernel
theorem vX9_keepTried_9 : ∀ w ∈ u_ws RX9 TX9 8, w ∈ wsX9_keepTried := by decide +kernel
theorem kX9_keepTried_29 : Cond.fieldLink RX9 29 (TX9 7).1 (TX9 7).2.1 (TX9 7).2.2.1 ∈ wsX9_keepTried := by decide +kernel
theorem kX9_keepTried_22 : Cond.fieldLink RX9 22 (TX9 5).1 (TX9 5).2.1 (TX9 5).2.2.1 ∈ wsX9_keepTried := by decide +kernel
theorem kX9_keepTried_15 : Cond.fieldLink RX9 15 (TX9 3).1 (TX9 3).2.1 (TX9 3).2.2.1 ∈ wsX9_keepTried := by decide +kernel
theorem kX9_keepTried_19 : Cond.fieldLink RX9 19 (TX9 4).1 (TX9 4).2.1 (TX9 4).2.2.1 ∈ wsX9_keepTried := by decide +kernel
theorem kX9_keepTried_26 : Cond.fieldLink RX9 26 (TX9 6).1 (TX9 6).2.1 (TX9 6).2.2.1 ∈ wsX9_keepTried := by decide +kernel
theorem jX9_keepTried_75_i : Cond.initialized yX11_replace.cls ∈ wsX9_keepTried := by decide +kernel
theorem jX9_keepTried_75_s : Cond.static yX11_replace ∈ wsX9_keepTried := by decide +kernel
theorem jX9_keepTried_75_n : (RX9, 75, yX11_replace, "Festivalgrounds") ∈ rj_nw := by decide +kernel
def bX9_keepTried_7 (μ : rj_M) (a0 : Int32) (j7 : Nat) (s7 : rj_M) : rj_M ⊕ (Nat × rj_M) := (if (s7.1 47 5) ≤ nI j7 then .inr (j7, s7) else .inl (mX11_replace s7 48 16 (s7.1 49 (nI j7).toNatClampNeg) (s7.1 50 (nI j7).toNatClampNeg)))
set_option maxHeartbeats 4000000 in
set_option maxRecDepth 100000 in
theorem lX9_keepTried_7 {g : rj_G} {ω : rj_W} (hω : rj_ok ω) (μ : rj_M) (a0 : Int32)     {F : rj_F} : ∀ (r j : Nat) (s : rj_M), j + r = 6 → (rj_R g RX9 cX9_keepTried 3 none wsX9_keepTried [] (rj_rm 1 0) F 0 ω ((rj_br (bX9_keepTried_7 μ a0) r j s).2) [(0, .ref (ω.2.2 47)), (1, .int a0), (2, .int (nI (rj_br (bX9_keepTried_7 μ a0) r j s).1))] 47 []) → rj_R g RX9 cX9_keepTried 3 none wsX9_keepTried [] (rj_rm 1 0) F 0 ω s [(0, .ref (ω.2.2 47)), (1, .int a0), (2, .int (nI j))] 7 [] := by
  intro r
  induction r with
  | zero =>
    intro j s hj K
    have e0 : j = 6 := by omega
    have hge : 6 ≤ nI j := by
      rw [e0]
      exact Int32.le_refl _
    refine rj_iload_n 2 dX9_keepTried_7 rfl rfl ?_
    refine rj_aload_n 0 dX9_keepTried_8 rfl rfl ?_
    refine rj_getI (C0 := RX9) (T := TX9) (N := 8) (j := 5) dX9_keepTried_9 rfl vX9_keepTried_9 rfl (rj_lt hω (k := 47) rfl) (rj_sh hω ly_47) (by decide) kX9_keepTried_22 rfl ?_
    refine rj_icmp_ge dX9_keepTried_12 rfl rfl (fun h3 => ?_) (fun h3 => ?_)
    · rw [rj_br_0] at K
      exact K
    · refine rj_iload_n 2 dX9_keepTried_15 rfl rfl ?_
      refine rj_bipush (v := 6) dX9_keepTried_16 rfl (by decide) ?_
      refine rj_icmp_ge dX9_keepTried_18 rfl rfl (fun h4 => ?_) (fun h4 => ?_)
      · rw [rj_br_0] at K
        exact K
      · exact absurd hge h4
  | succ r ih =>
    intro j7 s7 hj K
    have hl7 : j7 < 6 := by omega
    have hg7 : ¬ 6 ≤ nI j7 := nI_ge hl7 (rj_bl rfl)
    refine rj_iload_n 2 dX9_keepTried_7 rfl rfl ?_
    refine rj_aload_n 0 dX9_keepTried_8 rfl rfl ?_
    refine rj_getI (C0 := RX9) (T := TX9) (N := 8) (j := 5) dX9_keepTried_9 rfl vX9_keepTried_9 rfl (rj_lt hω (k := 47) rfl) (rj_sh hω ly_47) (by decide) kX9_keepTried_22 rfl ?_
    refine rj_icmp_ge dX9_keepTried_12 rfl rfl (fun h1 => ?_) (fun h1 => ?_)
    · have e : bX9_keepTried_7 μ a0 j7 s7 = .inr (j7, s7) := by unfold bX9_keepTried_7; rw [if_pos h1]; try rfl
      exact rj_sub (l' := [(0, .ref (ω.2.2 47)), (1, .int a0), (2, .int (nI j7))]) [0, 1, 2] rfl (by rw [rj_br_r e] at K; exact K)
    · refine rj_iload_n 2 dX9_keepTried_15 rfl rfl ?_
      refine rj_bipush (v := 6) dX9_keepTried_16 rfl (by decide) ?_
      refine rj_icmp_ge dX9_keepTried_18 rfl rfl (fun h2 => ?_) (fun h2 => ?_)
      · exact absurd h2 hg7
      · refine rj_aload_n 0 dX9_keepTried_21 rfl rfl ?_
        refine rj_getR (C0 := RX9) (T := TX9) (N := 8) (j := 3) (r := 48) dX9_keepTried_22 rfl vX9_keepTried_9 rfl (rj_lt hω (k := 47) rfl) (rj_sh hω ly_47) (by decide) kX9_keepTried_15 rfl ?_
        refine rj_aload_n 0 dX9_keepTried_25 rfl rfl ?_
        refine rj_getR (C0 := RX9) (T := TX9) (N := 8) (j := 4) (r := 49) dX9_keepTried_26 rfl vX9_keepTried_9 rfl (rj_lt hω (k := 47) rfl) (rj_sh hω ly_47) (by decide) kX9_keepTried_19 rfl ?_
        refine rj_iload_n 2 dX9_keepTried_29 rfl rfl ?_
        refine rj_iald dX9_keepTried_30 rfl (rj_lt hω (k := 49) rfl) (rj_sh hω ly_49) (vp_in_nI hl7 (rj_bl rfl)) ?_
        refine rj_aload_n 0 dX9_keepTried_31 rfl rfl ?_
        refine rj_getR (C0 := RX9) (T := TX9) (N := 8) (j := 6) (r := 50) dX9_keepTried_32 rfl vX9_keepTried_9 rfl (rj_lt hω (k := 47) rfl) (rj_sh hω ly_47) (by decide) kX9_keepTried_26 rfl ?_
        refine rj_iload_n 2 dX9_keepTried_35 rfl rfl ?_
        refine rj_iald dX9_keepTried_36 rfl (rj_lt hω (k := 50) rfl) (rj_sh hω ly_50) (vp_in_nI hl7 (rj_bl rfl)) ?_
        refine rj_cSN (rest := []) (sX11_replace (g := g) (ω := ω) s7 48 16 (s7.1 49 (nI j7).toNatClampNeg) (s7.1 50 (nI j7).toNatClampNeg) (rj_lt hω (k := 48) rfl) (rj_sh hω ly_48) (rj_bl rfl)  ) ggX9_keepTried_X11_replace jX9_keepTried_75_i jX9_keepTried_75_s jX9_keepTried_75_n rfl hSX11_replace ⟨Nat.le_of_ble_eq_true rfl, Nat.le_of_ble_eq_true rfl⟩ dX9_keepTried_37 rfl rfl rfl (Nat.le_of_ble_eq_true rfl) rfl (Nat.le_of_ble_eq_true rfl) rfl ?_
        refine rj_pop dX9_keepTried_40 rfl rfl ?_
        refine rj_iinc (v := nI (j7 + 1)) (l' := [(2, .int (nI (j7 + 1))), (0, .ref (ω.2.2 47)), (1, .int a0)]) 2 dX9_keepTried_41 rfl rfl (nI_succ j7).symm (rj_bl rfl) rfl ?_
        refine rj_goto dX9_keepTried_44 rfl ?_
        have e : bX9_keepTried_7 μ a0 j7 s7 = .inl (mX11_replace s7 48 16 (s7.1 49 (nI j7).toNatClampNeg) (s7.1 50 (nI j7).toNatClampNeg)) := by unfold bX9_keepTried_7; rw [if_neg h1]; try rfl
        exact rj_sub (l' := [(0, .ref (ω.2.2 47)), (1, .int a0), (2, .int (nI (j7 + 1)))]) [1, 2, 0] rfl (ih (j7 + 1) (mX11_replace s7 48 16 (s7.1 49 (nI j7).toNatClampNeg) (s7.1 50 (nI j7).toNatClampNeg)) (by omega) (by rw [rj_br_l e] at K; exact K))
def mX9_keepTried (μ : rj_M) (a0 : Int32) : rj_M := (rj_br (bX9_keepTried_7 μ a0) 6 0 (rj_pi μ 47 7 a0)).2
set_option maxHeartbeats 4000000 in
set_option maxRecDepth 100000 in
theorem sX9_keepTried {g : rj_G} {ω : rj_W} (hω : rj_ok ω) (μ : rj_M) (a0 : Int32)   : rj_Sp g yX9_keepTried wsX9_keepTried (rj_rm 1 0) [.ref (ω.2.2 47), .int a0] ω μ (rj_D (.inl none) ω (mX9_keepTried μ a0)) := by
  refine rj_of' (cc := cX9_keepTried) (nL := 3) (ret := none) (own := RX9) (l0 := [(0, .ref (ω.2.2 47)), (1, .int a0)]) rfl (by decide +kernel) rfl (Nat.le_of_ble_eq_true rfl) rfl ?_
  refine rj_aload_n 0 dX9_keepTried_0 rfl rfl ?_
  refine rj_iload_n 1 dX9_keepTried_1 rfl rfl ?_
  refine rj_putI (C0 := RX9) (T := TX9) (N := 8) (j := 7) dX9_keepTried_2 rfl vX9_keepTried_9 rfl (rj_lt hω (k := 47) rfl) (rj_sh hω ly_47) (by decide) kX9_keepTried_29 tyX9 tyX9_ok nmX9 rfl rfl rfl rfl ?_
  refine rj_iconst (v := 0) dX9_keepTried_5 rfl (by decide) ?_
  refine rj_istore_n (l' := [(2, .int 0), (0, .ref (ω.2.2 47)), (1, .int a0)]) dX9_keepTried_6 rfl (rj_bl rfl) rfl ?_
  refine rj_sub (l' := [(0, .ref (ω.2.2 47)), (1, .int a0), (2, .int (nI 0))]) [1, 2, 0] rfl ?_
  refine lX9_keepTried_7 hω μ a0     6 0 (rj_pi μ 47 7 a0) rfl ?_
  exact rj_vret dX9_keepTried_47 rfl (Nat.le_of_ble_eq_true rfl) (Nat.le_of_ble_eq_true rfl) ⟨rfl, rfl, (by unfold mX9_keepTried; rfl)⟩
theorem hSX9_carryOut : yX9_carryOut.cls ≠ "java/lang/invoke/MethodHandle" ∧ yX9_carryOut.cls ≠ "java/lang/invoke/VarHandle" ∧ (parseMethodDescriptor yX9_carryOut.desc).map (fun d => d.parameters.length) = some 0 := by decide +kernel
theorem hVX9_carryOut : yX9_carryOut.cls = RX9 ∧ yX9_carryOut.cls ≠ "java/lang/invoke/MethodHandle" ∧ yX9_carryOut.cls ≠ "java/lang/invoke/VarHandle" ∧ (parseMethodDescriptor yX9_carryOut.desc).map (fun d => d.parameters.length) = some 0 := by decide +kernel
theorem vX9_carryOut_9 : ∀ w ∈ u_ws RX9 TX9 8, w ∈ wsX9_carryOut := by decide +kernel
theorem kX9_carryOut_15 : Cond.fieldLink RX9 15 (TX9 3).1 (TX9 3).2.1 (TX9 3).2.2.1 ∈ wsX9_carryOut := by decide +kernel
theorem kX9_carryOut_36 : Cond.fieldLink RX9 36 (TX9 1).1 (TX9 1).2.1 (TX9 1).2.2.1 ∈ wsX9_carryOut := by decide +kernel
def bX9_carryOut_4 (μ : rj_M) (j4 : Nat) (s4 : Int32 × rj_M) : (Int32 × rj_M) := (if (s4.2.1 48 (nI j4).toNatClampNeg) = 4 then (s4.1, (mX7_remove s4.2 (nI j4))) else (if (s4.2.1 48 (nI j4).toNatClampNeg) = (-1) then (s4.1, s4.2) else (s4.1 + 1, (mX7_shiftTo s4.2 (nI j4) (s4.2.1 48 (nI j4).toNatClampNeg)))))
set_option maxHeartbeats 4000000 in
set_option maxRecDepth 100000 in
theorem lX9_carryOut_4 {g : rj_G} {ω : rj_W} (hω : rj_ok ω) (μ : rj_M)     {F : rj_F} : ∀ (r j : Nat) (s : Int32 × rj_M), j + r = 16 → (rj_R g RX9 cX9_carryOut 3 (some .int) wsX9_carryOut [] (rj_rm 2 0) F 0 ω ((rj_fo (bX9_carryOut_4 μ) r j s).2) [(0, .ref (ω.2.2 47)), (1, .int ((rj_fo (bX9_carryOut_4 μ) r j s).1)), (2, .int (nI 16))] 64 []) → rj_R g RX9 cX9_carryOut 3 (some .int) wsX9_carryOut [] (rj_rm 2 0) F 0 ω s.2 [(0, .ref (ω.2.2 47)), (1, .int s.1), (2, .int (nI j))] 4 [] := by
  intro r
  induction r with
  | zero =>
    intro j s hj K
    have e0 : j = 16 := by omega
    have hge : 16 ≤ nI j := by
      rw [e0]
      exact Int32.le_refl _
    refine rj_iload_n 2 dX9_carryOut_4 rfl rfl ?_
    refine rj_bipush (v := 16) dX9_carryOut_5 rfl (by decide) ?_
    refine rj_icmp_ge dX9_carryOut_7 rfl rfl (fun h4 => ?_) (fun h4 => ?_)
    · have e1 : nI j = nI 16 := by rw [e0]
      rw [e1]
      exact K
    · exact absurd hge h4
  | succ r ih =>
    intro j4 s4 hj K
    have hl4 : j4 < 16 := by omega
    have hg4 : ¬ 16 ≤ nI j4 := nI_ge hl4 (rj_bl rfl)
    refine rj_iload_n 2 dX9_carryOut_4 rfl rfl ?_
    refine rj_bipush (v := 16) dX9_carryOut_5 rfl (by decide) ?_
    refine rj_icmp_ge dX9_carryOut_7 rfl rfl (fun h1 => ?_) (fun h1 => ?_)
    · exact absurd h1 hg4
    · refine rj_aload_n 0 dX9_carryOut_10 rfl rfl ?_
      refine rj_getR (C0 := RX9) (T := TX9) (N := 8) (j := 3) (r := 48) dX9_carryOut_11 rfl vX9_carryOut_9 rfl (rj_lt hω (k := 47) rfl) (rj_sh hω ly_47) (by decide) kX9_carryOut_15 rfl ?_
      refine rj_iload_n 2 dX9_carryOut_14 rfl rfl ?_
      refine rj_iald dX9_carryOut_15 rfl (rj_lt hω (k := 48) rfl) (rj_sh hω ly_48) (vp_in_nI hl4 (rj_bl rfl)) ?_
      refine rj_iconst (v := 4) dX9_carryOut_16 rfl (by decide) ?_
      refine rj_icmp_ne dX9_carryOut_17 rfl rfl (fun h2 => ?_) (fun h2 => ?_)
      · refine rj_aload_n 0 dX9_carryOut_31 rfl rfl ?_
        refine rj_getR (C0 := RX9) (T := TX9) (N := 8) (j := 3) (r := 48) dX9_carryOut_32 rfl vX9_carryOut_9 rfl (rj_lt hω (k := 47) rfl) (rj_sh hω ly_47) (by decide) kX9_carryOut_15 rfl ?_
        refine rj_iload_n 2 dX9_carryOut_35 rfl rfl ?_
        refine rj_iald dX9_carryOut_36 rfl (rj_lt hω (k := 48) rfl) (rj_sh hω ly_48) (vp_in_nI hl4 (rj_bl rfl)) ?_
        refine rj_iconst (v := (-1)) dX9_carryOut_37 rfl (by decide) ?_
        refine rj_icmp_eq dX9_carryOut_38 rfl rfl (fun h3 => ?_) (fun h3 => ?_)
        · refine rj_iinc (v := nI (j4 + 1)) (l' := [(2, .int (nI (j4 + 1))), (0, .ref (ω.2.2 47)), (1, .int s4.1)]) 2 dX9_carryOut_58 rfl rfl (nI_succ j4).symm (rj_bl rfl) rfl ?_
          refine rj_goto dX9_carryOut_61 rfl ?_
          have e : bX9_carryOut_4 μ j4 s4 = (s4.1, s4.2) := by unfold bX9_carryOut_4; rw [if_neg h2]; rw [if_pos h3]; try rfl
          exact rj_sub (l' := [(0, .ref (ω.2.2 47)), (1, .int s4.1), (2, .int (nI (j4 + 1)))]) [1, 2, 0] rfl (ih (j4 + 1) (s4.1, s4.2) (by omega) (by rw [rj_fo_s, e] at K; exact K))
        · refine rj_aload_n 0 dX9_carryOut_41 rfl rfl ?_
          refine rj_getR (C0 := RX9) (T := TX9) (N := 8) (j := 1) (r := 8) dX9_carryOut_42 rfl vX9_carryOut_9 rfl (rj_lt hω (k := 47) rfl) (rj_sh hω ly_47) (by decide) kX9_carryOut_36 rfl ?_
          refine rj_iload_n 2 dX9_carryOut_45 rfl rfl ?_
          refine rj_aload_n 0 dX9_carryOut_46 rfl rfl ?_
          refine rj_getR (C0 := RX9) (T := TX9) (N := 8) (j := 3) (r := 48) dX9_carryOut_47 rfl vX9_carryOut_9 rfl (rj_lt hω (k := 47) rfl) (rj_sh hω ly_47) (by decide) kX9_carryOut_15 rfl ?_
          refine rj_iload_n 2 dX9_carryOut_50 rfl rfl ?_
          refine rj_iald dX9_carryOut_51 rfl (rj_lt hω (k := 48) rfl) (rj_sh hω ly_48) (vp_in_nI hl4 (rj_bl rfl)) ?_
          refine rj_cV (rest := []) (sX7_shiftTo (g := g) (ω := ω) hω s4.2 (nI j4) (s4.2.1 48 (nI j4).toNatClampNeg)   ) gX9_carryOut_X7_shiftTo (rj_lt hω (k := 8) rfl) (rj_sh hω ly_8) rfl rfl hVX7_shiftTo ⟨Nat.le_of_ble_eq_true rfl, Nat.le_of_ble_eq_true rfl⟩ dX9_carryOut_52 rfl rfl rfl (Nat.le_of_ble_eq_true rfl) rfl (Nat.le_of_ble_eq_true rfl) rfl ?_
          refine rj_iinc (v := s4.1 + 1) (l' := [(1, .int (s4.1 + 1)), (0, .ref (ω.2.2 47)), (2, .int (nI j4))]) 1 dX9_carryOut_55 rfl rfl rfl (rj_bl rfl) rfl ?_
          refine rj_iinc (v := nI (j4 + 1)) (l' := [(2, .int (nI (j4 + 1))), (1, .int (s4.1 + 1)), (0, .ref (ω.2.2 47))]) 2 dX9_carryOut_58 rfl rfl (nI_succ j4).symm (rj_bl rfl) rfl ?_
          refine rj_goto dX9_carryOut_61 rfl ?_
          have e : bX9_carryOut_4 μ j4 s4 = (s4.1 + 1, (mX7_shiftTo s4.2 (nI j4) (s4.2.1 48 (nI j4).toNatClampNeg))) := by unfold bX9_carryOut_4; rw [if_neg h2]; rw [if_neg h3]; try rfl
          exact rj_sub (l' := [(0, .ref (ω.2.2 47)), (1, .int (s4.1 + 1)), (2, .int (nI (j4 + 1)))]) [2, 1, 0] rfl (ih (j4 + 1) (s4.1 + 1, (mX7_shiftTo s4.2 (nI j4) (s4.2.1 48 (nI j4).toNatClampNeg))) (by omega) (by rw [rj_fo_s, e] at K; exact K))
      · refine rj_aload_n 0 dX9_carryOut_20 rfl rfl ?_
        refine rj_getR (C0 := RX9) (T := TX9) (N := 8) (j := 1) (r := 8) dX9_carryOut_21 rfl vX9_carryOut_9 rfl (rj_lt hω (k := 47) rfl) (rj_sh hω ly_47) (by decide) kX9_carryOut_36 rfl ?_
        refine rj_iload_n 2 dX9_carryOut_24 rfl rfl ?_
        refine rj_cV (rest := []) (sX7_remove (g := g) (ω := ω) hω s4.2 (nI j4)   ) gX9_carryOut_X7_remove (rj_lt hω (k := 8) rfl) (rj_sh hω ly_8) rfl rfl hVX7_remove ⟨Nat.le_of_ble_eq_true rfl, Nat.le_of_ble_eq_true rfl⟩ dX9_carryOut_25 rfl rfl rfl (Nat.le_of_ble_eq_true rfl) rfl (Nat.le_of_ble_eq_true rfl) rfl ?_
        refine rj_goto dX9_carryOut_28 rfl ?_
        refine rj_iinc (v := nI (j4 + 1)) (l' := [(2, .int (nI (j4 + 1))), (0, .ref (ω.2.2 47)), (1, .int s4.1)]) 2 dX9_carryOut_58 rfl rfl (nI_succ j4).symm (rj_bl rfl) rfl ?_
        refine rj_goto dX9_carryOut_61 rfl ?_
        have e : bX9_carryOut_4 μ j4 s4 = (s4.1, (mX7_remove s4.2 (nI j4))) := by unfold bX9_carryOut_4; rw [if_pos h2]; try rfl
        exact rj_sub (l' := [(0, .ref (ω.2.2 47)), (1, .int s4.1), (2, .int (nI (j4 + 1)))]) [1, 2, 0] rfl (ih (j4 + 1) (s4.1, (mX7_remove s4.2 (nI j4))) (by omega) (by rw [rj_fo_s, e] at K; exact K))
set_option maxHeartbeats 4000000 in
theorem lX9_carryOut_4u {g : rj_G} {ω : rj_W} (hω : rj_ok ω) (μ : rj_M)     {F : rj_F} : ∀ (r j : Nat) (c0 : Int32) (c1 : rj_M), j + r = 16 → (rj_R g RX9 cX9_carryOut 3 (some .int) wsX9_carryOut [] (rj_rm 2 0) F 0 ω ((rj_fo (bX9_carryOut_4 μ) r j (c0, c1)).2) [(0, .ref (ω.2.2 47)), (1, .int ((rj_fo (bX9_carryOut_4 μ) r j (c0, c1)).1)), (2, .int (nI 16))] 64 []) → rj_R g RX9 cX9_carryOut 3 (some .int) wsX9_carryOut [] (rj_rm 2 0) F 0 ω c1 [(0, .ref (ω.2.2 47)), (1, .int c0), (2, .int (nI j))] 4 [] := fun r j c0 c1 => lX9_carryOut_4 hω μ     r j (c0, c1)
def fX9_carryOut (μ : rj_M) : Int32 := (rj_fo (bX9_carryOut_4 μ) 16 0 (0, μ)).1
def mX9_carryOut (μ : rj_M) : rj_M := (rj_fo (bX9_carryOut_4 μ) 16 0 (0, μ)).2
set_option maxHeartbeats 4000000 in
set_option maxRecDepth 100000 in
theorem sX9_carryOut {g : rj_G} {ω : rj_W} (hω : rj_ok ω) (μ : rj_M)   : rj_Sp g yX9_carryOut wsX9_carryOut (rj_rm 2 0) [.ref (ω.2.2 47)] ω μ (rj_D (.inl (some (.int (fX9_carryOut μ)))) ω (mX9_carryOut μ)) := by
  refine rj_of' (cc := cX9_carryOut) (nL := 3) (ret := (some .int)) (own := RX9) (l0 := [(0, .ref (ω.2.2 47))]) rfl (by decide +kernel) rfl (Nat.le_of_ble_eq_true rfl) rfl ?_
  refine rj_iconst (v := 0) dX9_carryOut_0 rfl (by decide) ?_
  refine rj_istore_n (l' := [(1, .int 0), (0, .ref (ω.2.2 47))]) dX9_carryOut_1 rfl (rj_bl rfl) rfl ?_
  refine rj_iconst (v := 0) dX9_carryOut_2 rfl (by decide) ?_
  refine rj_istore_n (l' := [(2, .int 0), (1, .int 0), (0, .ref (ω.2.2 47))]) dX9_carryOut_3 rfl (rj_bl rfl) rfl ?_
  refine rj_sub (l' := [(0, .ref (ω.2.2 47)), (1, .int 0), (2, .int (nI 0))]) [2, 1, 0] rfl ?_
  refine lX9_carryOut_4u hω μ     16 0 0 μ rfl ?_
  refine rj_iload_n 1 dX9_carryOut_64 rfl rfl ?_
  exact rj_iret dX9_carryOut_65 rfl (Nat.le_of_ble_eq_true rfl) (Nat.le_of_ble_eq_true rfl) ⟨(by unfold fX9_carryOut; rfl), rfl, (by unfold mX9_carryOut; rfl)⟩
