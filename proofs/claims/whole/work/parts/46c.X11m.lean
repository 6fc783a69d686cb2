theorem hSX11_meanEvening : yX11_meanEvening.cls ≠ "java/lang/invoke/MethodHandle" ∧ yX11_meanEvening.cls ≠ "java/lang/invoke/VarHandle" ∧ (parseMethodDescriptor yX11_meanEvening.desc).map (fun d => d.parameters.length) = some 1 := by decide +kernel
theorem hVX11_meanEvening : yX11_meanEvening.cls = RX11 ∧ yX11_meanEvening.cls ≠ "java/lang/invoke/MethodHandle" ∧ yX11_meanEvening.cls ≠ "java/lang/invoke/VarHandle" ∧ (parseMethodDescriptor yX11_meanEvening.desc).map (fun d => d.parameters.length) = some 1 := by decide +kernel
theorem vX11_meanEvening_11 : ∀ w ∈ u_ws RX11 TX11 6, w ∈ wsX11_meanEvening := by decide +kernel
theorem kX11_meanEvening_33 : Cond.fieldLink RX11 33 (TX11 2).1 (TX11 2).2.1 (TX11 2).2.2.1 ∈ wsX11_meanEvening := by decide +kernel
def bX11_meanEvening_9 (μ : rj_M) (a0 : Int32) (j9 : Nat) (s9 : Int32 × rj_M) : (Int32 × rj_M) := ((s9.1 + (fX2_weightOn (mX2_planFor s9.2 (nI j9)) a0)), (mX2_planFor s9.2 (nI j9)))
set_option maxHeartbeats 4000000 in
set_option maxRecDepth 100000 in
theorem lX11_meanEvening_9 {g : rj_G} {ω : rj_W} (hω : rj_ok ω) (μ : rj_M) (a0 : Int32)     (hx1 : ((fX11_needPlace μ a0 4) = none)) {F : rj_F} : ∀ (r j : Nat) (s : Int32 × rj_M), j + r = 12 → (rj_R g RX11 cX11_meanEvening 4 (some .double) wsX11_meanEvening [] (rj_rm 7 1) F 1 ω ((rj_fo (bX11_meanEvening_9 μ a0) r j s).2) [(0, .ref (ω.2.2 0)), (1, .int a0), (2, .int ((rj_fo (bX11_meanEvening_9 μ a0) r j s).1)), (3, .int (nI 12))] 40 []) → rj_R g RX11 cX11_meanEvening 4 (some .double) wsX11_meanEvening [] (rj_rm 7 1) F 1 ω s.2 [(0, .ref (ω.2.2 0)), (1, .int a0), (2, .int s.1), (3, .int (nI j))] 9 [] := by
  intro r
  induction r with
  | zero =>
    intro j s hj K
    have e0 : j = 12 := by omega
    have hge : 12 ≤ nI j := by
      rw [e0]
      exact Int32.le_refl _
    refine rj_iload_n 3 dX11_meanEvening_9 rfl rfl ?_
    refine rj_bipush (v := 12) dX11_meanEvening_10 rfl (by decide) ?_
    refine rj_icmp_ge dX11_meanEvening_12 rfl rfl (fun h4 => ?_) (fun h4 => ?_)
    · have e1 : nI j = nI 12 := by rw [e0]
      rw [e1]
      exact K
    · exact absurd hge h4
  | succ r ih =>
    intro j9 s9 hj K
    have hl9 : j9 < 12 := by omega
    have hg9 : ¬ 12 ≤ nI j9 := nI_ge hl9 (rj_bl rfl)
    refine rj_iload_n 3 dX11_meanEvening_9 rfl rfl ?_
    refine rj_bipush (v := 12) dX11_meanEvening_10 rfl (by decide) ?_
    refine rj_icmp_ge dX11_meanEvening_12 rfl rfl (fun h3 => ?_) (fun h3 => ?_)
    · exact absurd h3 hg9
    · refine rj_aload_n 0 dX11_meanEvening_15 rfl rfl ?_
      refine rj_getR (C0 := RX11) (T := TX11) (N := 6) (j := 2) (r := 45) dX11_meanEvening_16 rfl vX11_meanEvening_11 rfl (rj_lt hω (k := 0) rfl) (rj_sh hω ly_0) (by decide) kX11_meanEvening_33 rfl ?_
      refine rj_iload_n 3 dX11_meanEvening_19 rfl rfl ?_
      refine rj_cV (rest := []) (sX2_planFor (g := g) (ω := ω) hω s9.2 (nI j9)   ) gX11_meanEvening_X2_planFor (rj_lt hω (k := 45) rfl) (rj_sh hω ly_45) rfl rfl hVX2_planFor ⟨Nat.le_of_ble_eq_true rfl, Nat.le_of_ble_eq_true rfl⟩ dX11_meanEvening_20 rfl rfl rfl (Nat.le_of_ble_eq_true rfl) rfl (Nat.le_of_ble_eq_true rfl) rfl ?_
      refine rj_iload_n 2 dX11_meanEvening_23 rfl rfl ?_
      refine rj_aload_n 0 dX11_meanEvening_24 rfl rfl ?_
      refine rj_getR (C0 := RX11) (T := TX11) (N := 6) (j := 2) (r := 45) dX11_meanEvening_25 rfl vX11_meanEvening_11 rfl (rj_lt hω (k := 0) rfl) (rj_sh hω ly_0) (by decide) kX11_meanEvening_33 rfl ?_
      refine rj_iload_n 1 dX11_meanEvening_28 rfl rfl ?_
      refine rj_cV (rest := [.int s9.1]) (sX2_weightOn (g := g) (ω := ω) hω (mX2_planFor s9.2 (nI j9)) a0   ) gX11_meanEvening_X2_weightOn (rj_lt hω (k := 45) rfl) (rj_sh hω ly_45) rfl rfl hVX2_weightOn ⟨Nat.le_of_ble_eq_true rfl, Nat.le_of_ble_eq_true rfl⟩ dX11_meanEvening_29 rfl rfl rfl (Nat.le_of_ble_eq_true rfl) rfl (Nat.le_of_ble_eq_true rfl) rfl ?_
      refine rj_iadd dX11_meanEvening_32 rfl ?_
      refine rj_istore_n (l' := [(2, .int (s9.1 + (fX2_weightOn (mX2_planFor s9.2 (nI j9)) a0))), (0, .ref (ω.2.2 0)), (1, .int a0), (3, .int (nI j9))]) dX11_meanEvening_33 rfl (rj_bl rfl) rfl ?_
      refine rj_iinc (v := nI (j9 + 1)) (l' := [(3, .int (nI (j9 + 1))), (2, .int (s9.1 + (fX2_weightOn (mX2_planFor s9.2 (nI j9)) a0))), (0, .ref (ω.2.2 0)), (1, .int a0)]) 3 dX11_meanEvening_34 rfl rfl (nI_succ j9).symm (rj_bl rfl) rfl ?_
      refine rj_goto dX11_meanEvening_37 rfl ?_
      have e : bX11_meanEvening_9 μ a0 j9 s9 = ((s9.1 + (fX2_weightOn (mX2_planFor s9.2 (nI j9)) a0)), (mX2_planFor s9.2 (nI j9))) := by unfold bX11_meanEvening_9; rfl
      exact rj_sub (l' := [(0, .ref (ω.2.2 0)), (1, .int a0), (2, .int (s9.1 + (fX2_weightOn (mX2_planFor s9.2 (nI j9)) a0))), (3, .int (nI (j9 + 1)))]) [2, 3, 1, 0] rfl (ih (j9 + 1) ((s9.1 + (fX2_weightOn (mX2_planFor s9.2 (nI j9)) a0)), (mX2_planFor s9.2 (nI j9))) (by omega) (by rw [rj_fo_s, e] at K; exact K))
set_option maxHeartbeats 4000000 in
theorem lX11_meanEvening_9u {g : rj_G} {ω : rj_W} (hω : rj_ok ω) (μ : rj_M) (a0 : Int32)     (hx1 : ((fX11_needPlace μ a0 4) = none)) {F : rj_F} : ∀ (r j : Nat) (c0 : Int32) (c1 : rj_M), j + r = 12 → (rj_R g RX11 cX11_meanEvening 4 (some .double) wsX11_meanEvening [] (rj_rm 7 1) F 1 ω ((rj_fo (bX11_meanEvening_9 μ a0) r j (c0, c1)).2) [(0, .ref (ω.2.2 0)), (1, .int a0), (2, .int ((rj_fo (bX11_meanEvening_9 μ a0) r j (c0, c1)).1)), (3, .int (nI 12))] 40 []) → rj_R g RX11 cX11_meanEvening 4 (some .double) wsX11_meanEvening [] (rj_rm 7 1) F 1 ω c1 [(0, .ref (ω.2.2 0)), (1, .int a0), (2, .int c0), (3, .int (nI j))] 9 [] := fun r j c0 c1 => lX11_meanEvening_9 hω μ a0     hx1 r j (c0, c1)
def fX11_meanEvening (μ : rj_M) (a0 : Int32) : UInt64 ⊕ String := (rj_bx (fX11_needPlace μ a0 4) (.inl (FP.ddiv (FP.i2d ((rj_fo (bX11_meanEvening_9 μ a0) 12 0 (0, μ)).1)) (4622945017495814144 : UInt64))))
def mX11_meanEvening (μ : rj_M) (a0 : Int32) : rj_M := (rj_bm (fX11_needPlace μ a0 4) (rj_fo (bX11_meanEvening_9 μ a0) 12 0 (0, μ)).2 μ)
def qX11_meanEvening (μ : rj_M) (a0 : Int32) : Prop := (rq_bx (fX11_needPlace μ a0 4) (vf_n64 (FP.ddiv (FP.i2d ((rj_fo (bX11_meanEvening_9 μ a0) 12 0 (0, μ)).1)) (4622945017495814144 : UInt64)) ∧ True))
set_option maxHeartbeats 40000000 in
set_option maxRecDepth 100000 in
theorem sX11_meanEvening {g : rj_G} {ω : rj_W} (hω : rj_ok ω) (μ : rj_M) (a0 : Int32)   (hq : qX11_meanEvening μ a0) : rj_Sp g yX11_meanEvening wsX11_meanEvening (rj_rm 7 1) [.ref (ω.2.2 0), .int a0] ω μ (rj_D (rj_od (fX11_meanEvening μ a0)) ω (mX11_meanEvening μ a0)) := by
  have hqa := hq
  unfold qX11_meanEvening at hqa
  refine rj_of' (cc := cX11_meanEvening) (nL := 4) (ret := (some .double)) (own := RX11) (l0 := [(0, .ref (ω.2.2 0)), (1, .int a0)]) rfl (by decide +kernel) rfl (Nat.le_of_ble_eq_true rfl) rfl ?_
  refine rj_iload_n 1 dX11_meanEvening_0 rfl rfl ?_
  refine rj_iconst (v := 4) dX11_meanEvening_1 rfl (by decide) ?_
  refine rj_cSx (rest := []) (sX11_needPlace (g := g) (ω := ω) hω μ a0 4   ) gX11_meanEvening_X11_needPlace rfl hSX11_needPlace ⟨Nat.le_of_ble_eq_true rfl, Nat.le_of_ble_eq_true rfl⟩ dX11_meanEvening_2 rfl rfl rfl (Nat.le_of_ble_eq_true rfl) rfl (Nat.le_of_ble_eq_true rfl) (fun E hE2 => ?_) (fun hx1 => ?_)
  · exact ⟨(by unfold fX11_meanEvening; try (rw [hE2]); try (simp only [rj_bx]); try rfl), rfl, (by unfold mX11_meanEvening; try (rw [hE2]); try (simp only [rj_bm]); try rfl)⟩
  · have hq1 := hqa; rw [hx1] at hq1; simp only [rq_bx] at hq1
    refine rj_iconst (v := 0) dX11_meanEvening_5 rfl (by decide) ?_
    refine rj_istore_n (l' := [(2, .int 0), (0, .ref (ω.2.2 0)), (1, .int a0)]) dX11_meanEvening_6 rfl (rj_bl rfl) rfl ?_
    refine rj_iconst (v := 0) dX11_meanEvening_7 rfl (by decide) ?_
    refine rj_istore_n (l' := [(3, .int 0), (2, .int 0), (0, .ref (ω.2.2 0)), (1, .int a0)]) dX11_meanEvening_8 rfl (rj_bl rfl) rfl ?_
    refine rj_sub (l' := [(0, .ref (ω.2.2 0)), (1, .int a0), (2, .int 0), (3, .int (nI 0))]) [2, 3, 1, 0] rfl ?_
    refine lX11_meanEvening_9u hω μ a0     hx1 12 0 0 μ rfl ?_
    refine rj_iload_n 2 dX11_meanEvening_40 rfl rfl ?_
    refine rj_i2d dX11_meanEvening_41 rfl ?_
    refine rj_ldc2d (v := (4622945017495814144 : UInt64)) dX11_meanEvening_42 rfl (by decide +kernel) ?_
    refine rj_ddiv dX11_meanEvening_45 rfl (hq1).1 ?_
    exact rj_dret dX11_meanEvening_46 rfl (Nat.le_of_ble_eq_true rfl) (Nat.le_of_ble_eq_true rfl) ⟨(by unfold fX11_meanEvening; try (rw [hx1]); try (simp only [rj_bx]); try rfl), rfl, (by unfold mX11_meanEvening; try (rw [hx1]); try (simp only [rj_bm]); try rfl)⟩
theorem hSX11_lineupShare : yX11_lineupShare.cls ≠ "java/lang/invoke/MethodHandle" ∧ yX11_lineupShare.cls ≠ "java/lang/invoke/VarHandle" ∧ (parseMethodDescriptor yX11_lineupShare.desc).map (fun d => d.parameters.length) = some 0 := by decide +kernel
theorem hVX11_lineupShare : yX11_lineupShare.cls = RX11 ∧ yX11_lineupShare.cls ≠ "java/lang/invoke/MethodHandle" ∧ yX11_lineupShare.cls ≠ "java/lang/invoke/VarHandle" ∧ (parseMethodDescriptor yX11_lineupShare.desc).map (fun d => d.parameters.length) = some 0 := by decide +kernel
theorem vX11_lineupShare_11 : ∀ w ∈ u_ws RX11 TX11 6, w ∈ wsX11_lineupShare := by decide +kernel
theorem kX11_lineupShare_12 : Cond.fieldLink RX11 12 (TX11 0).1 (TX11 0).2.1 (TX11 0).2.2.1 ∈ wsX11_lineupShare := by decide +kernel
theorem vX11_lineupShare_5 : ∀ w ∈ u_ws RX5 TX5 8, w ∈ wsX11_lineupShare := by decide +kernel
theorem kX11_lineupShare_26 : Cond.fieldLink RX11 26 (TX5 2).1 (TX5 2).2.1 (TX5 2).2.2.1 ∈ wsX11_lineupShare := by decide +kernel
def fX11_lineupShare (μ : rj_M) : UInt32 := (if (fJ6_bitCount_0f7a4 μ (fX7_numbers μ)) = 0 then FP.fconst0 else (FP.fdiv (FP.i2f (fJ6_bitCount_0f7a4 (mX7_lineup μ) (fX7_lineup μ))) (FP.i2f (fJ6_bitCount_0f7a4 μ (fX7_numbers μ)))))
def mX11_lineupShare (μ : rj_M) : rj_M := (if (fJ6_bitCount_0f7a4 μ (fX7_numbers μ)) = 0 then μ else (mX7_lineup μ))
def qX11_lineupShare (μ : rj_M) : Prop := (if (fJ6_bitCount_0f7a4 μ (fX7_numbers μ)) = 0 then True else (qX7_lineup μ ∧ vf_n32 (FP.fdiv (FP.i2f (fJ6_bitCount_0f7a4 (mX7_lineup μ) (fX7_lineup μ))) (FP.i2f (fJ6_bitCount_0f7a4 μ (fX7_numbers μ)))) ∧ True))
set_option maxHeartbeats 40000000 in
set_option maxRecDepth 100000 in
theorem sX11_lineupShare {g : rj_G} {ω : rj_W} (hω : rj_ok ω) (μ : rj_M)   (hq : qX11_lineupShare μ) : rj_Sp g yX11_lineupShare wsX11_lineupShare (rj_rm 20 0) [.ref (ω.2.2 0)] ω μ (rj_D (.inl (some (.float (fX11_lineupShare μ)))) ω (mX11_lineupShare μ)) := by
  have hqa := hq
  unfold qX11_lineupShare at hqa
  refine rj_of' (cc := cX11_lineupShare) (nL := 2) (ret := (some .float)) (own := RX11) (l0 := [(0, .ref (ω.2.2 0))]) rfl (by decide +kernel) rfl (Nat.le_of_ble_eq_true rfl) rfl ?_
  refine rj_aload_n 0 dX11_lineupShare_0 rfl rfl ?_
  refine rj_getR (C0 := RX11) (T := TX11) (N := 6) (j := 0) (r := 1) dX11_lineupShare_1 rfl vX11_lineupShare_11 rfl (rj_lt hω (k := 0) rfl) (rj_sh hω ly_0) (by decide) kX11_lineupShare_12 rfl ?_
  refine rj_getR (C0 := RX5) (T := TX5) (N := 8) (j := 2) (r := 8) dX11_lineupShare_4 rfl vX11_lineupShare_5 rfl (rj_lt hω (k := 1) rfl) (rj_sh hω ly_1) (by decide) kX11_lineupShare_26 rfl ?_
  refine rj_cV (rest := []) (sX7_numbers (g := g) (ω := ω) hω μ   ) gX11_lineupShare_X7_numbers (rj_lt hω (k := 8) rfl) (rj_sh hω ly_8) rfl rfl hVX7_numbers ⟨Nat.le_of_ble_eq_true rfl, Nat.le_of_ble_eq_true rfl⟩ dX11_lineupShare_7 rfl rfl rfl (Nat.le_of_ble_eq_true rfl) rfl (Nat.le_of_ble_eq_true rfl) rfl ?_
  refine rj_cS (rest := []) (sJ6_bitCount_0f7a4 (g := g) (ω := ω) μ (fX7_numbers μ)   ) gX11_lineupShare_J6_bitCount_0f7a4 rfl hSJ6_bitCount_0f7a4 ⟨Nat.le_of_ble_eq_true rfl, Nat.le_of_ble_eq_true rfl⟩ dX11_lineupShare_10 rfl rfl rfl (Nat.le_of_ble_eq_true rfl) rfl (Nat.le_of_ble_eq_true rfl) rfl ?_
  refine rj_istore_n (l' := [(1, .int (fJ6_bitCount_0f7a4 μ (fX7_numbers μ))), (0, .ref (ω.2.2 0))]) dX11_lineupShare_13 rfl (rj_bl rfl) rfl ?_
  refine rj_iload_n 0 dX11_lineupShare_14 rfl rfl ?_
  refine rj_if_ne dX11_lineupShare_15 rfl rfl (fun h1 => ?_) (fun h1 => ?_)
  · have hq1 := hqa; rw [if_neg h1] at hq1
    refine rj_aload_n 1 dX11_lineupShare_20 rfl rfl ?_
    refine rj_getR (C0 := RX11) (T := TX11) (N := 6) (j := 0) (r := 1) dX11_lineupShare_21 rfl vX11_lineupShare_11 rfl (rj_lt hω (k := 0) rfl) (rj_sh hω ly_0) (by decide) kX11_lineupShare_12 rfl ?_
    refine rj_getR (C0 := RX5) (T := TX5) (N := 8) (j := 2) (r := 8) dX11_lineupShare_24 rfl vX11_lineupShare_5 rfl (rj_lt hω (k := 1) rfl) (rj_sh hω ly_1) (by decide) kX11_lineupShare_26 rfl ?_
    refine rj_cV (rest := []) (sX7_lineup (g := g) (ω := ω) hω μ   (hq1).1) gX11_lineupShare_X7_lineup (rj_lt hω (k := 8) rfl) (rj_sh hω ly_8) rfl rfl hVX7_lineup ⟨Nat.le_of_ble_eq_true rfl, Nat.le_of_ble_eq_true rfl⟩ dX11_lineupShare_27 rfl rfl rfl (Nat.le_of_ble_eq_true rfl) rfl (Nat.le_of_ble_eq_true rfl) rfl ?_
    refine rj_cS (rest := []) (sJ6_bitCount_0f7a4 (g := g) (ω := ω) (mX7_lineup μ) (fX7_lineup μ)   ) gX11_lineupShare_J6_bitCount_0f7a4 rfl hSJ6_bitCount_0f7a4 ⟨Nat.le_of_ble_eq_true rfl, Nat.le_of_ble_eq_true rfl⟩ dX11_lineupShare_30 rfl rfl rfl (Nat.le_of_ble_eq_true rfl) rfl (Nat.le_of_ble_eq_true rfl) rfl ?_
    refine rj_i2f dX11_lineupShare_33 rfl ?_
    refine rj_iload_n 0 dX11_lineupShare_34 rfl rfl ?_
    refine rj_i2f dX11_lineupShare_35 rfl ?_
    refine rj_fdiv dX11_lineupShare_36 rfl ((hq1).2).1 ?_
    exact rj_fret dX11_lineupShare_37 rfl (Nat.le_of_ble_eq_true rfl) (Nat.le_of_ble_eq_true rfl) ⟨(by unfold fX11_lineupShare; rw [if_neg h1]; try rfl), rfl, (by unfold mX11_lineupShare; rw [if_neg h1]; try rfl)⟩
  · have hq2 := hqa; rw [if_pos h1] at hq2
    refine rj_fconst0 dX11_lineupShare_18 rfl ?_
    exact rj_fret dX11_lineupShare_19 rfl (Nat.le_of_ble_eq_true rfl) (Nat.le_of_ble_eq_true rfl) ⟨(by unfold fX11_lineupShare; rw [if_pos h1]; try rfl), rfl, (by unfold mX11_lineupShare; rw [if_pos h1]; try rfl)⟩
