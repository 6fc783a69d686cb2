theorem hSX12_piecesMeet : yX12_piecesMeet.cls ≠ "java/lang/invoke/MethodHandle" ∧ yX12_piecesMeet.cls ≠ "java/lang/invoke/VarHandle" ∧ (parseMethodDescriptor yX12_piecesMeet.desc).map (fun d => d.parameters.length) = some 2 := by decide +kernel
theorem hVX12_piecesMeet : yX12_piecesMeet.cls = RX12 ∧ yX12_piecesMeet.cls ≠ "java/lang/invoke/MethodHandle" ∧ yX12_piecesMeet.cls ≠ "java/lang/invoke/VarHandle" ∧ (parseMethodDescriptor yX12_piecesMeet.desc).map (fun d => d.parameters.length) = some 2 := by decide +kernel
def fX12_piecesMeet (μ : rj_M) (a0 : Int32) (a1 : Int32) : Int32 := (if (fX12_endOf μ a1) ≤ ((fX12_its μ a0 2) - (fX12_its μ a0 4)) then 0 else (if (fX12_endOf μ a0) ≤ ((fX12_its μ a1 2) - (fX12_its μ a1 4)) then 0 else 1))
set_option maxHeartbeats 40000000 in
set_option maxRecDepth 100000 in
theorem sX12_piecesMeet {g : rj_G} {ω : rj_W} (hω : rj_ok ω) (μ : rj_M) (a0 : Int32) (a1 : Int32)  (hp_a0 : vp_in a0 16) (hp_a1 : vp_in a1 16)  : rj_Sp g yX12_piecesMeet wsX12_piecesMeet (rj_rm 2 0) [.ref (ω.2.2 395), .int a0, .int a1] ω μ (rj_D (.inl (some (.int (fX12_piecesMeet μ a0 a1)))) ω μ) := by
  refine rj_of' (cc := cX12_piecesMeet) (nL := 3) (ret := (some .boolean)) (own := RX12) (l0 := [(0, .ref (ω.2.2 395)), (1, .int a0), (2, .int a1)]) rfl (by decide +kernel) rfl (Nat.le_of_ble_eq_true rfl) rfl ?_
  refine rj_aload_n 0 dX12_piecesMeet_0 rfl rfl ?_
  refine rj_iload_n 1 dX12_piecesMeet_1 rfl rfl ?_
  refine rj_iconst (v := 2) dX12_piecesMeet_2 rfl (by decide) ?_
  refine rj_cV (rest := []) (sX12_its (g := g) (ω := ω) hω μ a0 2  hp_a0 (vp_in_nI (n := 2) (rj_bl rfl) (rj_bl rfl)) ) gX12_piecesMeet_X12_its (rj_lt hω (k := 395) rfl) (rj_sh hω ly_395) rfl rfl hVX12_its ⟨Nat.le_of_ble_eq_true rfl, Nat.le_of_ble_eq_true rfl⟩ dX12_piecesMeet_3 rfl rfl rfl (Nat.le_of_ble_eq_true rfl) rfl (Nat.le_of_ble_eq_true rfl) rfl ?_
  refine rj_aload_n 0 dX12_piecesMeet_6 rfl rfl ?_
  refine rj_iload_n 1 dX12_piecesMeet_7 rfl rfl ?_
  refine rj_iconst (v := 4) dX12_piecesMeet_8 rfl (by decide) ?_
  refine rj_cV (rest := [.int (fX12_its μ a0 2)]) (sX12_its (g := g) (ω := ω) hω μ a0 4  hp_a0 (vp_in_nI (n := 4) (rj_bl rfl) (rj_bl rfl)) ) gX12_piecesMeet_X12_its (rj_lt hω (k := 395) rfl) (rj_sh hω ly_395) rfl rfl hVX12_its ⟨Nat.le_of_ble_eq_true rfl, Nat.le_of_ble_eq_true rfl⟩ dX12_piecesMeet_9 rfl rfl rfl (Nat.le_of_ble_eq_true rfl) rfl (Nat.le_of_ble_eq_true rfl) rfl ?_
  refine rj_isub dX12_piecesMeet_12 rfl ?_
  refine rj_aload_n 0 dX12_piecesMeet_13 rfl rfl ?_
  refine rj_iload_n 2 dX12_piecesMeet_14 rfl rfl ?_
  refine rj_cV (rest := [.int ((fX12_its μ a0 2) - (fX12_its μ a0 4))]) (sX12_endOf (g := g) (ω := ω) hω μ a1  hp_a1 ) gX12_piecesMeet_X12_endOf (rj_lt hω (k := 395) rfl) (rj_sh hω ly_395) rfl rfl hVX12_endOf ⟨Nat.le_of_ble_eq_true rfl, Nat.le_of_ble_eq_true rfl⟩ dX12_piecesMeet_15 rfl rfl rfl (Nat.le_of_ble_eq_true rfl) rfl (Nat.le_of_ble_eq_true rfl) rfl ?_
  refine rj_icmp_ge dX12_piecesMeet_18 rfl rfl (fun h1 => ?_) (fun h1 => ?_)
  · refine rj_iconst (v := 0) dX12_piecesMeet_46 rfl (by decide) ?_
    exact rj_zret dX12_piecesMeet_47 rfl rfl (Nat.le_of_ble_eq_true rfl) (Nat.le_of_ble_eq_true rfl) ⟨(by unfold fX12_piecesMeet; rw [if_pos h1]; try rfl), rfl, rfl⟩
  · refine rj_aload_n 0 dX12_piecesMeet_21 rfl rfl ?_
    refine rj_iload_n 2 dX12_piecesMeet_22 rfl rfl ?_
    refine rj_iconst (v := 2) dX12_piecesMeet_23 rfl (by decide) ?_
    refine rj_cV (rest := []) (sX12_its (g := g) (ω := ω) hω μ a1 2  hp_a1 (vp_in_nI (n := 2) (rj_bl rfl) (rj_bl rfl)) ) gX12_piecesMeet_X12_its (rj_lt hω (k := 395) rfl) (rj_sh hω ly_395) rfl rfl hVX12_its ⟨Nat.le_of_ble_eq_true rfl, Nat.le_of_ble_eq_true rfl⟩ dX12_piecesMeet_24 rfl rfl rfl (Nat.le_of_ble_eq_true rfl) rfl (Nat.le_of_ble_eq_true rfl) rfl ?_
    refine rj_aload_n 0 dX12_piecesMeet_27 rfl rfl ?_
    refine rj_iload_n 2 dX12_piecesMeet_28 rfl rfl ?_
    refine rj_iconst (v := 4) dX12_piecesMeet_29 rfl (by decide) ?_
    refine rj_cV (rest := [.int (fX12_its μ a1 2)]) (sX12_its (g := g) (ω := ω) hω μ a1 4  hp_a1 (vp_in_nI (n := 4) (rj_bl rfl) (rj_bl rfl)) ) gX12_piecesMeet_X12_its (rj_lt hω (k := 395) rfl) (rj_sh hω ly_395) rfl rfl hVX12_its ⟨Nat.le_of_ble_eq_true rfl, Nat.le_of_ble_eq_true rfl⟩ dX12_piecesMeet_30 rfl rfl rfl (Nat.le_of_ble_eq_true rfl) rfl (Nat.le_of_ble_eq_true rfl) rfl ?_
    refine rj_isub dX12_piecesMeet_33 rfl ?_
    refine rj_aload_n 0 dX12_piecesMeet_34 rfl rfl ?_
    refine rj_iload_n 1 dX12_piecesMeet_35 rfl rfl ?_
    refine rj_cV (rest := [.int ((fX12_its μ a1 2) - (fX12_its μ a1 4))]) (sX12_endOf (g := g) (ω := ω) hω μ a0  hp_a0 ) gX12_piecesMeet_X12_endOf (rj_lt hω (k := 395) rfl) (rj_sh hω ly_395) rfl rfl hVX12_endOf ⟨Nat.le_of_ble_eq_true rfl, Nat.le_of_ble_eq_true rfl⟩ dX12_piecesMeet_36 rfl rfl rfl (Nat.le_of_ble_eq_true rfl) rfl (Nat.le_of_ble_eq_true rfl) rfl ?_
    refine rj_icmp_ge dX12_piecesMeet_39 rfl rfl (fun h2 => ?_) (fun h2 => ?_)
    · refine rj_iconst (v := 0) dX12_piecesMeet_46 rfl (by decide) ?_
      exact rj_zret dX12_piecesMeet_47 rfl rfl (Nat.le_of_ble_eq_true rfl) (Nat.le_of_ble_eq_true rfl) ⟨(by unfold fX12_piecesMeet; rw [if_neg h1]; rw [if_pos h2]; try rfl), rfl, rfl⟩
    · refine rj_iconst (v := 1) dX12_piecesMeet_42 rfl (by decide) ?_
      refine rj_goto dX12_piecesMeet_43 rfl ?_
      exact rj_zret dX12_piecesMeet_47 rfl rfl (Nat.le_of_ble_eq_true rfl) (Nat.le_of_ble_eq_true rfl) ⟨(by unfold fX12_piecesMeet; rw [if_neg h1]; rw [if_neg h2]; try rfl), rfl, rfl⟩
theorem nX12_piecesMeet (μ : rj_M) (a0 : Int32) (a1 : Int32) : narrow .boolean (.int (fX12_piecesMeet μ a0 a1)) = .int (fX12_piecesMeet μ a0 a1) := by
  unfold fX12_piecesMeet
  split
  · rfl
  · split
    · rfl
    · rfl
theorem hSX12_areClashing : yX12_areClashing.cls ≠ "java/lang/invoke/MethodHandle" ∧ yX12_areClashing.cls ≠ "java/lang/invoke/VarHandle" ∧ (parseMethodDescriptor yX12_areClashing.desc).map (fun d => d.parameters.length) = some 2 := by decide +kernel
theorem hVX12_areClashing : yX12_areClashing.cls = RX12 ∧ yX12_areClashing.cls ≠ "java/lang/invoke/MethodHandle" ∧ yX12_areClashing.cls ≠ "java/lang/invoke/VarHandle" ∧ (parseMethodDescriptor yX12_areClashing.desc).map (fun d => d.parameters.length) = some 2 := by decide +kernel
def fX12_areClashing (μ : rj_M) (a0 : Int32) (a1 : Int32) : Int32 := (if (fX12_piecesMeet μ a0 a1) = 0 then 0 else (if (fX12_its μ a0 1) = (fX12_its μ a1 1) then 1 else (if ((fX12_its μ a0 5) &&& (fX12_its μ a1 5)) = 0 then 0 else 1)))
set_option maxHeartbeats 40000000 in
set_option maxRecDepth 100000 in
theorem sX12_areClashing {g : rj_G} {ω : rj_W} (hω : rj_ok ω) (μ : rj_M) (a0 : Int32) (a1 : Int32)  (hp_a0 : vp_in a0 16) (hp_a1 : vp_in a1 16)  : rj_Sp g yX12_areClashing wsX12_areClashing (rj_rm 3 0) [.ref (ω.2.2 395), .int a0, .int a1] ω μ (rj_D (.inl (some (.int (fX12_areClashing μ a0 a1)))) ω μ) := by
  refine rj_of' (cc := cX12_areClashing) (nL := 3) (ret := (some .boolean)) (own := RX12) (l0 := [(0, .ref (ω.2.2 395)), (1, .int a0), (2, .int a1)]) rfl (by decide +kernel) rfl (Nat.le_of_ble_eq_true rfl) rfl ?_
  refine rj_aload_n 0 dX12_areClashing_0 rfl rfl ?_
  refine rj_iload_n 1 dX12_areClashing_1 rfl rfl ?_
  refine rj_iload_n 2 dX12_areClashing_2 rfl rfl ?_
  refine rj_cV (rest := []) (sX12_piecesMeet (g := g) (ω := ω) hω μ a0 a1  hp_a0 hp_a1 ) gX12_areClashing_X12_piecesMeet (rj_lt hω (k := 395) rfl) (rj_sh hω ly_395) rfl rfl hVX12_piecesMeet ⟨Nat.le_of_ble_eq_true rfl, Nat.le_of_ble_eq_true rfl⟩ dX12_areClashing_3 rfl rfl rfl (Nat.le_of_ble_eq_true rfl) rfl (Nat.le_of_ble_eq_true rfl) rfl ?_
  refine rj_if_eq dX12_areClashing_6 rfl rfl (fun h1 => ?_) (fun h1 => ?_)
  · refine rj_iconst (v := 0) dX12_areClashing_44 rfl (by decide) ?_
    exact rj_zret dX12_areClashing_45 rfl rfl (Nat.le_of_ble_eq_true rfl) (Nat.le_of_ble_eq_true rfl) ⟨(by unfold fX12_areClashing; rw [if_pos h1]; try rfl), rfl, rfl⟩
  · refine rj_aload_n 0 dX12_areClashing_9 rfl rfl ?_
    refine rj_iload_n 1 dX12_areClashing_10 rfl rfl ?_
    refine rj_iconst (v := 1) dX12_areClashing_11 rfl (by decide) ?_
    refine rj_cV (rest := []) (sX12_its (g := g) (ω := ω) hω μ a0 1  hp_a0 (vp_in_nI (n := 1) (rj_bl rfl) (rj_bl rfl)) ) gX12_areClashing_X12_its (rj_lt hω (k := 395) rfl) (rj_sh hω ly_395) rfl rfl hVX12_its ⟨Nat.le_of_ble_eq_true rfl, Nat.le_of_ble_eq_true rfl⟩ dX12_areClashing_12 rfl rfl rfl (Nat.le_of_ble_eq_true rfl) rfl (Nat.le_of_ble_eq_true rfl) rfl ?_
    refine rj_aload_n 0 dX12_areClashing_15 rfl rfl ?_
    refine rj_iload_n 2 dX12_areClashing_16 rfl rfl ?_
    refine rj_iconst (v := 1) dX12_areClashing_17 rfl (by decide) ?_
    refine rj_cV (rest := [.int (fX12_its μ a0 1)]) (sX12_its (g := g) (ω := ω) hω μ a1 1  hp_a1 (vp_in_nI (n := 1) (rj_bl rfl) (rj_bl rfl)) ) gX12_areClashing_X12_its (rj_lt hω (k := 395) rfl) (rj_sh hω ly_395) rfl rfl hVX12_its ⟨Nat.le_of_ble_eq_true rfl, Nat.le_of_ble_eq_true rfl⟩ dX12_areClashing_18 rfl rfl rfl (Nat.le_of_ble_eq_true rfl) rfl (Nat.le_of_ble_eq_true rfl) rfl ?_
    refine rj_icmp_eq dX12_areClashing_21 rfl rfl (fun h2 => ?_) (fun h2 => ?_)
    · refine rj_iconst (v := 1) dX12_areClashing_40 rfl (by decide) ?_
      refine rj_goto dX12_areClashing_41 rfl ?_
      exact rj_zret dX12_areClashing_45 rfl rfl (Nat.le_of_ble_eq_true rfl) (Nat.le_of_ble_eq_true rfl) ⟨(by unfold fX12_areClashing; rw [if_neg h1]; rw [if_pos h2]; try rfl), rfl, rfl⟩
    · refine rj_aload_n 0 dX12_areClashing_24 rfl rfl ?_
      refine rj_iload_n 1 dX12_areClashing_25 rfl rfl ?_
      refine rj_iconst (v := 5) dX12_areClashing_26 rfl (by decide) ?_
      refine rj_cV (rest := []) (sX12_its (g := g) (ω := ω) hω μ a0 5  hp_a0 (vp_in_nI (n := 5) (rj_bl rfl) (rj_bl rfl)) ) gX12_areClashing_X12_its (rj_lt hω (k := 395) rfl) (rj_sh hω ly_395) rfl rfl hVX12_its ⟨Nat.le_of_ble_eq_true rfl, Nat.le_of_ble_eq_true rfl⟩ dX12_areClashing_27 rfl rfl rfl (Nat.le_of_ble_eq_true rfl) rfl (Nat.le_of_ble_eq_true rfl) rfl ?_
      refine rj_aload_n 0 dX12_areClashing_30 rfl rfl ?_
      refine rj_iload_n 2 dX12_areClashing_31 rfl rfl ?_
      refine rj_iconst (v := 5) dX12_areClashing_32 rfl (by decide) ?_
      refine rj_cV (rest := [.int (fX12_its μ a0 5)]) (sX12_its (g := g) (ω := ω) hω μ a1 5  hp_a1 (vp_in_nI (n := 5) (rj_bl rfl) (rj_bl rfl)) ) gX12_areClashing_X12_its (rj_lt hω (k := 395) rfl) (rj_sh hω ly_395) rfl rfl hVX12_its ⟨Nat.le_of_ble_eq_true rfl, Nat.le_of_ble_eq_true rfl⟩ dX12_areClashing_33 rfl rfl rfl (Nat.le_of_ble_eq_true rfl) rfl (Nat.le_of_ble_eq_true rfl) rfl ?_
      refine rj_iand dX12_areClashing_36 rfl ?_
      refine rj_if_eq dX12_areClashing_37 rfl rfl (fun h3 => ?_) (fun h3 => ?_)
      · refine rj_iconst (v := 0) dX12_areClashing_44 rfl (by decide) ?_
        exact rj_zret dX12_areClashing_45 rfl rfl (Nat.le_of_ble_eq_true rfl) (Nat.le_of_ble_eq_true rfl) ⟨(by unfold fX12_areClashing; rw [if_neg h1]; rw [if_neg h2]; rw [if_pos h3]; try rfl), rfl, rfl⟩
      · refine rj_iconst (v := 1) dX12_areClashing_40 rfl (by decide) ?_
        refine rj_goto dX12_areClashing_41 rfl ?_
        exact rj_zret dX12_areClashing_45 rfl rfl (Nat.le_of_ble_eq_true rfl) (Nat.le_of_ble_eq_true rfl) ⟨(by unfold fX12_areClashing; rw [if_neg h1]; rw [if_neg h2]; rw [if_neg h3]; try rfl), rfl, rfl⟩
theorem nX12_areClashing (μ : rj_M) (a0 : Int32) (a1 : Int32) : narrow .boolean (.int (fX12_areClashing μ a0 a1)) = .int (fX12_areClashing μ a0 a1) := by
  unfold fX12_areClashing
  split
  · rfl
  · split
    · rfl
    · split
      · rfl
      · rfl
