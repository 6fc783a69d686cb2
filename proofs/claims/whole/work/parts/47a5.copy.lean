theorem hSX4_copyFrom : yX4_copyFrom.cls ≠ "java/lang/invoke/MethodHandle" ∧ yX4_copyFrom.cls ≠ "java/lang/invoke/VarHandle" ∧ (parseMethodDescriptor yX4_copyFrom.desc).map (fun d => d.parameters.length) = some 1 := by decide +kernel
theorem hVX4_copyFrom : yX4_copyFrom.cls = RX4 ∧ yX4_copyFrom.cls ≠ "java/lang/invoke/MethodHandle" ∧ yX4_copyFrom.cls ≠ "java/lang/invoke/VarHandle" ∧ (parseMethodDescriptor yX4_copyFrom.desc).map (fun d => d.parameters.length) = some 1 := by decide +kernel
theorem vX4_copyFrom_4 : ∀ w ∈ u_ws RX4 TX4 4, w ∈ wsX4_copyFrom := by decide +kernel
theorem kX4_copyFrom_9 : Cond.fieldLink RX4 9 (TX4 0).1 (TX4 0).2.1 (TX4 0).2.2.1 ∈ wsX4_copyFrom := by decide +kernel
theorem kX4_copyFrom_15 : Cond.fieldLink RX4 15 (TX4 1).1 (TX4 1).2.1 (TX4 1).2.2.1 ∈ wsX4_copyFrom := by decide +kernel
theorem jX4_copyFrom_29_i : Cond.initialized yX11_copyRow.cls ∈ wsX4_copyFrom := by decide +kernel
theorem jX4_copyFrom_29_s : Cond.static yX11_copyRow ∈ wsX4_copyFrom := by decide +kernel
theorem jX4_copyFrom_29_n : (RX4, 29, yX11_copyRow, "Festivalgrounds") ∈ rj_nw := by decide +kernel
theorem kX4_copyFrom_19 : Cond.fieldLink RX4 19 (TX4 2).1 (TX4 2).2.1 (TX4 2).2.2.1 ∈ wsX4_copyFrom := by decide +kernel
theorem kX4_copyFrom_22 : Cond.fieldLink RX4 22 (TX4 3).1 (TX4 3).2.1 (TX4 3).2.2.1 ∈ wsX4_copyFrom := by decide +kernel
def bX4_copyFrom_2 (μ : rj_M) (b : Nat) (o : Nat) (j2 : Nat) (s2 : rj_M) : rj_M := (rj_pi s2 (b + 3) (nI j2).toNatClampNeg (vp_nar .boolean (s2.1 (o + 3) (nI j2).toNatClampNeg)))
set_option maxHeartbeats 4000000 in
set_option maxRecDepth 100000 in
theorem lX4_copyFrom_2 {g : rj_G} {ω : rj_W} (μ : rj_M) (b : Nat) (o : Nat)    (hB : rj_base ω b) (hO : rj_base ω o) {F : rj_F} : ∀ (r j : Nat) (s : rj_M), j + r = 4 → (rj_R g RX4 cX4_copyFrom 3 none wsX4_copyFrom [] (rj_rm 2 0) F 0 ω (rj_fo (bX4_copyFrom_2 μ b o) r j s) [(0, .ref (ω.2.2 (b + 2))), (1, .ref (ω.2.2 (o + 2))), (2, .int (nI 4))] 25 []) → rj_R g RX4 cX4_copyFrom 3 none wsX4_copyFrom [] (rj_rm 2 0) F 0 ω s [(0, .ref (ω.2.2 (b + 2))), (1, .ref (ω.2.2 (o + 2))), (2, .int (nI j))] 2 [] := by
  intro r
  induction r with
  | zero =>
    intro j s hj K
    have e0 : j = 4 := by omega
    have hge : 4 ≤ nI j := by
      rw [e0]
      exact Int32.le_refl _
    refine rj_iload_n 2 dX4_copyFrom_2 rfl rfl ?_
    refine rj_iconst (v := 4) dX4_copyFrom_3 rfl (by decide) ?_
    refine rj_icmp_ge dX4_copyFrom_4 rfl rfl (fun h2 => ?_) (fun h2 => ?_)
    · have e1 : nI j = nI 4 := by rw [e0]
      rw [e1]
      exact K
    · exact absurd hge h2
  | succ r ih =>
    intro j2 s2 hj K
    have hl2 : j2 < 4 := by omega
    have hg2 : ¬ 4 ≤ nI j2 := nI_ge hl2 (rj_bl rfl)
    refine rj_iload_n 2 dX4_copyFrom_2 rfl rfl ?_
    refine rj_iconst (v := 4) dX4_copyFrom_3 rfl (by decide) ?_
    refine rj_icmp_ge dX4_copyFrom_4 rfl rfl (fun h1 => ?_) (fun h1 => ?_)
    · exact absurd h1 hg2
    · refine rj_aload_n 0 dX4_copyFrom_7 rfl rfl ?_
      refine rj_getR (C0 := RX4) (T := TX4) (N := 4) (j := 0) (r := (b + 3)) dX4_copyFrom_8 rfl vX4_copyFrom_4 rfl (hB.lt (o := 2) rfl) (hB.sh (o := 2) rfl (lm_2 _)) (by decide) kX4_copyFrom_9 rfl ?_
      refine rj_iload_n 2 dX4_copyFrom_11 rfl rfl ?_
      refine rj_aload_n 1 dX4_copyFrom_12 rfl rfl ?_
      refine rj_getR (C0 := RX4) (T := TX4) (N := 4) (j := 0) (r := (o + 3)) dX4_copyFrom_13 rfl vX4_copyFrom_4 rfl (hO.lt (o := 2) rfl) (hO.sh (o := 2) rfl (lm_2 _)) (by decide) kX4_copyFrom_9 rfl ?_
      refine rj_iload_n 2 dX4_copyFrom_16 rfl rfl ?_
      refine rj_zald dX4_copyFrom_17 rfl (hO.lt (o := 3) rfl) (hO.sh (o := 3) rfl (lm_3 _)) (vp_in_nI hl2 (rj_bl rfl)) ?_
      refine rj_zast dX4_copyFrom_18 rfl (hB.lt (o := 3) rfl) (hB.sh (o := 3) rfl (lm_3 _)) (vp_in_nI hl2 (rj_bl rfl)) ?_
      refine rj_iinc (v := nI (j2 + 1)) (l' := [(2, .int (nI (j2 + 1))), (0, .ref (ω.2.2 (b + 2))), (1, .ref (ω.2.2 (o + 2)))]) 2 dX4_copyFrom_19 rfl rfl (nI_succ j2).symm (rj_bl rfl) rfl ?_
      refine rj_goto dX4_copyFrom_22 rfl ?_
      have e : bX4_copyFrom_2 μ b o j2 s2 = (rj_pi s2 (b + 3) (nI j2).toNatClampNeg (vp_nar .boolean (s2.1 (o + 3) (nI j2).toNatClampNeg))) := by unfold bX4_copyFrom_2; rfl
      exact rj_sub (l' := [(0, .ref (ω.2.2 (b + 2))), (1, .ref (ω.2.2 (o + 2))), (2, .int (nI (j2 + 1)))]) [1, 2, 0] rfl (ih (j2 + 1) (rj_pi s2 (b + 3) (nI j2).toNatClampNeg (vp_nar .boolean (s2.1 (o + 3) (nI j2).toNatClampNeg))) (by omega) (by rw [rj_fo_s, e] at K; exact K))
def mX4_copyFrom (μ : rj_M) (b : Nat) (o : Nat) : rj_M := (mX11_copyRow (mX11_copyRow (mX11_copyRow (rj_fo (bX4_copyFrom_2 μ b o) 4 0 μ) (o + 4) 16 (b + 4) 16) (o + 5) 16 (b + 5) 16) (o + 6) 100 (b + 6) 100)
set_option maxHeartbeats 40000000 in
set_option maxRecDepth 100000 in
theorem sX4_copyFrom {g : rj_G} {ω : rj_W} (μ : rj_M) (b : Nat) (o : Nat)  (hB : rj_base ω b) (hO : rj_base ω o)  : rj_Sp g yX4_copyFrom wsX4_copyFrom (rj_rm 2 0) [.ref (ω.2.2 (b + 2)), .ref (ω.2.2 (o + 2))] ω μ (rj_D (.inl none) ω (mX4_copyFrom μ b o)) := by
  refine rj_of' (cc := cX4_copyFrom) (nL := 3) (ret := none) (own := RX4) (l0 := [(0, .ref (ω.2.2 (b + 2))), (1, .ref (ω.2.2 (o + 2)))]) rfl (by decide +kernel) rfl (Nat.le_of_ble_eq_true rfl) rfl ?_
  refine rj_iconst (v := 0) dX4_copyFrom_0 rfl (by decide) ?_
  refine rj_istore_n (l' := [(2, .int 0), (0, .ref (ω.2.2 (b + 2))), (1, .ref (ω.2.2 (o + 2)))]) dX4_copyFrom_1 rfl (rj_bl rfl) rfl ?_
  refine rj_sub (l' := [(0, .ref (ω.2.2 (b + 2))), (1, .ref (ω.2.2 (o + 2))), (2, .int (nI 0))]) [1, 2, 0] rfl ?_
  refine lX4_copyFrom_2 μ b o    hB hO 4 0 μ rfl ?_
  refine rj_aload_n 1 dX4_copyFrom_25 rfl rfl ?_
  refine rj_getR (C0 := RX4) (T := TX4) (N := 4) (j := 1) (r := (o + 4)) dX4_copyFrom_26 rfl vX4_copyFrom_4 rfl (hO.lt (o := 2) rfl) (hO.sh (o := 2) rfl (lm_2 _)) (by decide) kX4_copyFrom_15 rfl ?_
  refine rj_aload_n 0 dX4_copyFrom_29 rfl rfl ?_
  refine rj_getR (C0 := RX4) (T := TX4) (N := 4) (j := 1) (r := (b + 4)) dX4_copyFrom_30 rfl vX4_copyFrom_4 rfl (hB.lt (o := 2) rfl) (hB.sh (o := 2) rfl (lm_2 _)) (by decide) kX4_copyFrom_15 rfl ?_
  refine rj_cSN (rest := []) (sX11_copyRow (g := g) (ω := ω) (rj_fo (bX4_copyFrom_2 μ b o) 4 0 μ) (o + 4) 16 (b + 4) 16 (hO.lt (o := 4) rfl) (hO.sh (o := 4) rfl (lm_4 _)) (rj_bl rfl) (hB.lt (o := 4) rfl) (hB.sh (o := 4) rfl (lm_4 _)) (rj_bl rfl)  ) ggX4_copyFrom_X11_copyRow jX4_copyFrom_29_i jX4_copyFrom_29_s jX4_copyFrom_29_n rfl hSX11_copyRow ⟨Nat.le_of_ble_eq_true rfl, Nat.le_of_ble_eq_true rfl⟩ dX4_copyFrom_33 rfl rfl rfl (Nat.le_of_ble_eq_true rfl) rfl (Nat.le_of_ble_eq_true rfl) rfl ?_
  refine rj_aload_n 1 dX4_copyFrom_36 rfl rfl ?_
  refine rj_getR (C0 := RX4) (T := TX4) (N := 4) (j := 2) (r := (o + 5)) dX4_copyFrom_37 rfl vX4_copyFrom_4 rfl (hO.lt (o := 2) rfl) (hO.sh (o := 2) rfl (lm_2 _)) (by decide) kX4_copyFrom_19 rfl ?_
  refine rj_aload_n 0 dX4_copyFrom_40 rfl rfl ?_
  refine rj_getR (C0 := RX4) (T := TX4) (N := 4) (j := 2) (r := (b + 5)) dX4_copyFrom_41 rfl vX4_copyFrom_4 rfl (hB.lt (o := 2) rfl) (hB.sh (o := 2) rfl (lm_2 _)) (by decide) kX4_copyFrom_19 rfl ?_
  refine rj_cSN (rest := []) (sX11_copyRow (g := g) (ω := ω) (mX11_copyRow (rj_fo (bX4_copyFrom_2 μ b o) 4 0 μ) (o + 4) 16 (b + 4) 16) (o + 5) 16 (b + 5) 16 (hO.lt (o := 5) rfl) (hO.sh (o := 5) rfl (lm_5 _)) (rj_bl rfl) (hB.lt (o := 5) rfl) (hB.sh (o := 5) rfl (lm_5 _)) (rj_bl rfl)  ) ggX4_copyFrom_X11_copyRow jX4_copyFrom_29_i jX4_copyFrom_29_s jX4_copyFrom_29_n rfl hSX11_copyRow ⟨Nat.le_of_ble_eq_true rfl, Nat.le_of_ble_eq_true rfl⟩ dX4_copyFrom_44 rfl rfl rfl (Nat.le_of_ble_eq_true rfl) rfl (Nat.le_of_ble_eq_true rfl) rfl ?_
  refine rj_aload_n 1 dX4_copyFrom_47 rfl rfl ?_
  refine rj_getR (C0 := RX4) (T := TX4) (N := 4) (j := 3) (r := (o + 6)) dX4_copyFrom_48 rfl vX4_copyFrom_4 rfl (hO.lt (o := 2) rfl) (hO.sh (o := 2) rfl (lm_2 _)) (by decide) kX4_copyFrom_22 rfl ?_
  refine rj_aload_n 0 dX4_copyFrom_51 rfl rfl ?_
  refine rj_getR (C0 := RX4) (T := TX4) (N := 4) (j := 3) (r := (b + 6)) dX4_copyFrom_52 rfl vX4_copyFrom_4 rfl (hB.lt (o := 2) rfl) (hB.sh (o := 2) rfl (lm_2 _)) (by decide) kX4_copyFrom_22 rfl ?_
  refine rj_cSN (rest := []) (sX11_copyRow (g := g) (ω := ω) (mX11_copyRow (mX11_copyRow (rj_fo (bX4_copyFrom_2 μ b o) 4 0 μ) (o + 4) 16 (b + 4) 16) (o + 5) 16 (b + 5) 16) (o + 6) 100 (b + 6) 100 (hO.lt (o := 6) rfl) (hO.sh (o := 6) rfl (lm_6 _)) (rj_bl rfl) (hB.lt (o := 6) rfl) (hB.sh (o := 6) rfl (lm_6 _)) (rj_bl rfl)  ) ggX4_copyFrom_X11_copyRow jX4_copyFrom_29_i jX4_copyFrom_29_s jX4_copyFrom_29_n rfl hSX11_copyRow ⟨Nat.le_of_ble_eq_true rfl, Nat.le_of_ble_eq_true rfl⟩ dX4_copyFrom_55 rfl rfl rfl (Nat.le_of_ble_eq_true rfl) rfl (Nat.le_of_ble_eq_true rfl) rfl ?_
  exact rj_vret dX4_copyFrom_58 rfl (Nat.le_of_ble_eq_true rfl) (Nat.le_of_ble_eq_true rfl) ⟨rfl, rfl, (by unfold mX4_copyFrom; rfl)⟩
