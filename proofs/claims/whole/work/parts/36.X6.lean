theorem hSX6_addUp : yX6_addUp.cls ≠ "java/lang/invoke/MethodHandle" ∧ yX6_addUp.cls ≠ "java/lang/invoke/VarHandle" ∧ (parseMethodDescriptor yX6_addUp.desc).map (fun d => d.parameters.length) = some 2 := by decide +kernel
theorem hVX6_addUp : yX6_addUp.cls = RX6 ∧ yX6_addUp.cls ≠ "java/lang/invoke/MethodHandle" ∧ yX6_addUp.cls ≠ "java/lang/invoke/VarHandle" ∧ (parseMethodDescriptor yX6_addUp.desc).map (fun d => d.parameters.length) = some 2 := by decide +kernel
def bX6_addUp_14 (μ : rj_M) (k : Nat) (n : Nat) (k2 : Nat) (n2 : Nat) (j2 : Nat) (s2 : rj_M) (j14 : Nat) (s14 : rj_M) : rj_M := (if (((nI j2) >>> ((nI j14) &&& 31)) &&& 1) = 0 then s14 else (rj_pi s14 k2 (nI j2).toNatClampNeg ((s14.1 k2 (nI j2).toNatClampNeg) + (s14.1 k (nI j14).toNatClampNeg))))
set_option maxHeartbeats 4000000 in
set_option maxRecDepth 100000 in
theorem lX6_addUp_14 {g : rj_G} {ω : rj_W} (μ : rj_M) (k : Nat) (n : Nat) (k2 : Nat) (n2 : Nat) (j2 : Nat) (s2 : rj_M) (hk_k : k < ω.1) (hs_k : ω.2.1 k = .inl (0, n)) (hn_n : n < 2 ^ 31) (hk_k2 : k2 < ω.1) (hs_k2 : ω.2.1 k2 = .inl (0, n2)) (hn_n2 : n2 < 2 ^ 31)  (hl2 : j2 < n2)  {F : rj_F} : ∀ (r j : Nat) (s : rj_M), j + r = n → (rj_R g RX6 cX6_addUp 4 none wsX6_addUp [] (rj_rm 0 0) F 0 ω (rj_fo (bX6_addUp_14 μ k n k2 n2 j2 s2) r j s) [(0, .ref (ω.2.2 k)), (1, .ref (ω.2.2 k2)), (2, .int (nI j2)), (3, .int (nI n))] 43 []) → rj_R g RX6 cX6_addUp 4 none wsX6_addUp [] (rj_rm 0 0) F 0 ω s [(0, .ref (ω.2.2 k)), (1, .ref (ω.2.2 k2)), (2, .int (nI j2)), (3, .int (nI j))] 14 [] := by
  intro r
  induction r with
  | zero =>
    intro j s hj K
    have e0 : j = n := by omega
    have hge : nI n ≤ nI j := by
      rw [e0]
      exact Int32.le_refl _
    refine rj_iload_n 3 dX6_addUp_14 rfl rfl ?_
    refine rj_aload_n 0 dX6_addUp_15 rfl rfl ?_
    refine rj_alen (v := nI n) dX6_addUp_16 rfl hk_k hs_k rfl rfl ?_
    refine rj_icmp_ge dX6_addUp_17 rfl rfl (fun h4 => ?_) (fun h4 => ?_)
    · have e1 : nI j = nI n := by rw [e0]
      rw [e1]
      exact K
    · exact absurd hge h4
  | succ r ih =>
    intro j14 s14 hj K
    have hl14 : j14 < n := by omega
    have hg14 : ¬ nI n ≤ nI j14 := nI_ge hl14 hn_n
    refine rj_iload_n 3 dX6_addUp_14 rfl rfl ?_
    refine rj_aload_n 0 dX6_addUp_15 rfl rfl ?_
    refine rj_alen (v := nI n) dX6_addUp_16 rfl hk_k hs_k rfl rfl ?_
    refine rj_icmp_ge dX6_addUp_17 rfl rfl (fun h2 => ?_) (fun h2 => ?_)
    · exact absurd h2 hg14
    · refine rj_iload_n 2 dX6_addUp_20 rfl rfl ?_
      refine rj_iload_n 3 dX6_addUp_21 rfl rfl ?_
      refine rj_ishr dX6_addUp_22 rfl ?_
      refine rj_iconst (v := 1) dX6_addUp_23 rfl (by decide) ?_
      refine rj_iand dX6_addUp_24 rfl ?_
      refine rj_if_eq dX6_addUp_25 rfl rfl (fun h3 => ?_) (fun h3 => ?_)
      · refine rj_iinc (v := nI (j14 + 1)) (l' := [(3, .int (nI (j14 + 1))), (0, .ref (ω.2.2 k)), (1, .ref (ω.2.2 k2)), (2, .int (nI j2))]) 3 dX6_addUp_37 rfl rfl (nI_succ j14).symm (rj_bl rfl) rfl ?_
        refine rj_goto dX6_addUp_40 rfl ?_
        have e : bX6_addUp_14 μ k n k2 n2 j2 s2 j14 s14 = s14 := by unfold bX6_addUp_14; rw [if_pos h3]; try rfl
        exact rj_sub (l' := [(0, .ref (ω.2.2 k)), (1, .ref (ω.2.2 k2)), (2, .int (nI j2)), (3, .int (nI (j14 + 1)))]) [1, 2, 3, 0] rfl (ih (j14 + 1) s14 (by omega) (by rw [rj_fo_s, e] at K; exact K))
      · refine rj_aload_n 1 dX6_addUp_28 rfl rfl ?_
        refine rj_iload_n 2 dX6_addUp_29 rfl rfl ?_
        refine rj_dup2 dX6_addUp_30 rfl rfl rfl ?_
        refine rj_iald dX6_addUp_31 rfl hk_k2 hs_k2 (vp_in_nI hl2 hn_n2) ?_
        refine rj_aload_n 0 dX6_addUp_32 rfl rfl ?_
        refine rj_iload_n 3 dX6_addUp_33 rfl rfl ?_
        refine rj_iald dX6_addUp_34 rfl hk_k hs_k (vp_in_nI hl14 hn_n) ?_
        refine rj_iadd dX6_addUp_35 rfl ?_
        refine rj_iast dX6_addUp_36 rfl hk_k2 hs_k2 (vp_in_nI hl2 hn_n2) ?_
        refine rj_iinc (v := nI (j14 + 1)) (l' := [(3, .int (nI (j14 + 1))), (0, .ref (ω.2.2 k)), (1, .ref (ω.2.2 k2)), (2, .int (nI j2))]) 3 dX6_addUp_37 rfl rfl (nI_succ j14).symm (rj_bl rfl) rfl ?_
        refine rj_goto dX6_addUp_40 rfl ?_
        have e : bX6_addUp_14 μ k n k2 n2 j2 s2 j14 s14 = (rj_pi s14 k2 (nI j2).toNatClampNeg ((s14.1 k2 (nI j2).toNatClampNeg) + (s14.1 k (nI j14).toNatClampNeg))) := by unfold bX6_addUp_14; rw [if_neg h3]; try rfl
        exact rj_sub (l' := [(0, .ref (ω.2.2 k)), (1, .ref (ω.2.2 k2)), (2, .int (nI j2)), (3, .int (nI (j14 + 1)))]) [1, 2, 3, 0] rfl (ih (j14 + 1) (rj_pi s14 k2 (nI j2).toNatClampNeg ((s14.1 k2 (nI j2).toNatClampNeg) + (s14.1 k (nI j14).toNatClampNeg))) (by omega) (by rw [rj_fo_s, e] at K; exact K))
def bX6_addUp_2 (μ : rj_M) (k : Nat) (n : Nat) (k2 : Nat) (n2 : Nat) (j2 : Nat) (s2 : rj_M) : rj_M := (rj_fo (bX6_addUp_14 μ k n k2 n2 j2 s2) n 0 (rj_pi s2 k2 (nI j2).toNatClampNeg 0))
set_option maxHeartbeats 4000000 in
set_option maxRecDepth 100000 in
theorem lX6_addUp_2 {g : rj_G} {ω : rj_W} (μ : rj_M) (k : Nat) (n : Nat) (k2 : Nat) (n2 : Nat) (hk_k : k < ω.1) (hs_k : ω.2.1 k = .inl (0, n)) (hn_n : n < 2 ^ 31) (hk_k2 : k2 < ω.1) (hs_k2 : ω.2.1 k2 = .inl (0, n2)) (hn_n2 : n2 < 2 ^ 31)    {F : rj_F} : ∀ (r j : Nat) (s : rj_M), j + r = n2 → (rj_R g RX6 cX6_addUp 4 none wsX6_addUp [] (rj_rm 0 0) F 0 ω (rj_fo (bX6_addUp_2 μ k n k2 n2) r j s) [(0, .ref (ω.2.2 k)), (1, .ref (ω.2.2 k2)), (2, .int (nI n2))] 49 []) → rj_R g RX6 cX6_addUp 4 none wsX6_addUp [] (rj_rm 0 0) F 0 ω s [(0, .ref (ω.2.2 k)), (1, .ref (ω.2.2 k2)), (2, .int (nI j))] 2 [] := by
  intro r
  induction r with
  | zero =>
    intro j s hj K
    have e0 : j = n2 := by omega
    have hge : nI n2 ≤ nI j := by
      rw [e0]
      exact Int32.le_refl _
    refine rj_iload_n 2 dX6_addUp_2 rfl rfl ?_
    refine rj_aload_n 1 dX6_addUp_3 rfl rfl ?_
    refine rj_alen (v := nI n2) dX6_addUp_4 rfl hk_k2 hs_k2 rfl rfl ?_
    refine rj_icmp_ge dX6_addUp_5 rfl rfl (fun h5 => ?_) (fun h5 => ?_)
    · have e1 : nI j = nI n2 := by rw [e0]
      rw [e1]
      exact K
    · exact absurd hge h5
  | succ r ih =>
    intro j2 s2 hj K
    have hl2 : j2 < n2 := by omega
    have hg2 : ¬ nI n2 ≤ nI j2 := nI_ge hl2 hn_n2
    refine rj_iload_n 2 dX6_addUp_2 rfl rfl ?_
    refine rj_aload_n 1 dX6_addUp_3 rfl rfl ?_
    refine rj_alen (v := nI n2) dX6_addUp_4 rfl hk_k2 hs_k2 rfl rfl ?_
    refine rj_icmp_ge dX6_addUp_5 rfl rfl (fun h1 => ?_) (fun h1 => ?_)
    · exact absurd h1 hg2
    · refine rj_aload_n 1 dX6_addUp_8 rfl rfl ?_
      refine rj_iload_n 2 dX6_addUp_9 rfl rfl ?_
      refine rj_iconst (v := 0) dX6_addUp_10 rfl (by decide) ?_
      refine rj_iast dX6_addUp_11 rfl hk_k2 hs_k2 (vp_in_nI hl2 hn_n2) ?_
      refine rj_iconst (v := 0) dX6_addUp_12 rfl (by decide) ?_
      refine rj_istore_n (l' := [(3, .int 0), (0, .ref (ω.2.2 k)), (1, .ref (ω.2.2 k2)), (2, .int (nI j2))]) dX6_addUp_13 rfl (rj_bl rfl) rfl ?_
      refine rj_sub (l' := [(0, .ref (ω.2.2 k)), (1, .ref (ω.2.2 k2)), (2, .int (nI j2)), (3, .int (nI 0))]) [1, 2, 3, 0] rfl ?_
      refine lX6_addUp_14 μ k n k2 n2 j2 s2 hk_k hs_k hn_n hk_k2 hs_k2 hn_n2  hl2  n 0 (rj_pi s2 k2 (nI j2).toNatClampNeg 0) (by omega) ?_
      refine rj_iinc (v := nI (j2 + 1)) (l' := [(2, .int (nI (j2 + 1))), (0, .ref (ω.2.2 k)), (1, .ref (ω.2.2 k2)), (3, .int (nI n))]) 2 dX6_addUp_43 rfl rfl (nI_succ j2).symm (rj_bl rfl) rfl ?_
      refine rj_goto dX6_addUp_46 rfl ?_
      have e : bX6_addUp_2 μ k n k2 n2 j2 s2 = (rj_fo (bX6_addUp_14 μ k n k2 n2 j2 s2) n 0 (rj_pi s2 k2 (nI j2).toNatClampNeg 0)) := by unfold bX6_addUp_2; rfl
      exact rj_sub (l' := [(0, .ref (ω.2.2 k)), (1, .ref (ω.2.2 k2)), (2, .int (nI (j2 + 1)))]) [1, 2, 0] rfl (ih (j2 + 1) (rj_fo (bX6_addUp_14 μ k n k2 n2 j2 s2) n 0 (rj_pi s2 k2 (nI j2).toNatClampNeg 0)) (by omega) (by rw [rj_fo_s, e] at K; exact K))
def mX6_addUp (μ : rj_M) (k : Nat) (n : Nat) (k2 : Nat) (n2 : Nat) : rj_M := (rj_fo (bX6_addUp_2 μ k n k2 n2) n2 0 μ)
set_option maxHeartbeats 4000000 in
set_option maxRecDepth 100000 in
theorem sX6_addUp {g : rj_G} {ω : rj_W} (μ : rj_M) (k : Nat) (n : Nat) (k2 : Nat) (n2 : Nat) (hk_k : k < ω.1) (hs_k : ω.2.1 k = .inl (0, n)) (hn_n : n < 2 ^ 31) (hk_k2 : k2 < ω.1) (hs_k2 : ω.2.1 k2 = .inl (0, n2)) (hn_n2 : n2 < 2 ^ 31)  : rj_Sp g yX6_addUp wsX6_addUp (rj_rm 0 0) [.ref (ω.2.2 k), .ref (ω.2.2 k2)] ω μ (rj_D (.inl none) ω (mX6_addUp μ k n k2 n2)) := by
  refine rj_of' (cc := cX6_addUp) (nL := 4) (ret := none) (own := RX6) (l0 := [(0, .ref (ω.2.2 k)), (1, .ref (ω.2.2 k2))]) rfl (by decide +kernel) rfl (Nat.le_of_ble_eq_true rfl) rfl ?_
  refine rj_iconst (v := 0) dX6_addUp_0 rfl (by decide) ?_
  refine rj_istore_n (l' := [(2, .int 0), (0, .ref (ω.2.2 k)), (1, .ref (ω.2.2 k2))]) dX6_addUp_1 rfl (rj_bl rfl) rfl ?_
  refine rj_sub (l' := [(0, .ref (ω.2.2 k)), (1, .ref (ω.2.2 k2)), (2, .int (nI 0))]) [1, 2, 0] rfl ?_
  refine lX6_addUp_2 μ k n k2 n2 hk_k hs_k hn_n hk_k2 hs_k2 hn_n2    n2 0 μ (by omega) ?_
  exact rj_vret dX6_addUp_49 rfl (Nat.le_of_ble_eq_true rfl) (Nat.le_of_ble_eq_true rfl) ⟨rfl, rfl, (by unfold mX6_addUp; rfl)⟩
theorem rj_andin {a x : Int32} {k n : Nat} (h : vp_in a n) (hn : n = 2 ^ k) (hk : k ≤ 30) : vp_in (a &&& x) n := by
  subst hn
  obtain ⟨i, hi, rfl⟩ := vp_in_of h (Nat.lt_of_le_of_lt (Nat.pow_le_pow_right (by decide) hk) (rj_bl rfl))
  have hp : 2 ^ k ≤ 2 ^ 30 := Nat.pow_le_pow_right (by decide) hk
  have e : nI i &&& x = nI (i &&& x.toBitVec.toNat) := by
    apply Int32.toBitVec_inj.mp
    apply BitVec.eq_of_toNat_eq
    rw [Int32.toBitVec_and, BitVec.toNat_and, pk_tn (by omega), pk_tn (Nat.lt_of_le_of_lt Nat.and_le_left (by omega))]
  rw [e]
  exact vp_in_nI (Nat.lt_of_le_of_lt Nat.and_le_left hi) (Nat.lt_of_le_of_lt hp (rj_bl rfl))
theorem rj_costin {h s : Int32} (h1 : ¬ h < 0) (h2 : ¬ 24 ≤ h) (h3 : ¬ s < 0) (h4 : ¬ 16 ≤ s) : vp_in (((h + 1) * 16) + s) 400 := by
  obtain ⟨i, hi, rfl⟩ := vp_in_of (rj_in h1 h2 (n := 24) rfl) (rj_bl rfl)
  obtain ⟨j, hj, rfl⟩ := vp_in_of (rj_in h3 h4 (n := 16) rfl) (rj_bl rfl)
  rw [← nI_succ, show (nI (i + 1) * 16 : Int32) = nI ((i + 1) * 16) from pk_mul (i + 1) 16, nI_add]
  exact vp_in_nI (by omega) (rj_bl rfl)
theorem rj_costin2 {i j : Nat} (hi : i < 24) (hj : j < 16) : vp_in ((nI i * 16) + nI j) 400 := by
  rw [show (nI i * 16 : Int32) = nI (i * 16) from pk_mul i 16, nI_add]
  exact vp_in_nI (by omega) (rj_bl rfl)
theorem hSX6_costBy : yX6_costBy.cls ≠ "java/lang/invoke/MethodHandle" ∧ yX6_costBy.cls ≠ "java/lang/invoke/VarHandle" ∧ (parseMethodDescriptor yX6_costBy.desc).map (fun d => d.parameters.length) = some 3 := by decide +kernel
theorem hVX6_costBy : yX6_costBy.cls = RX6 ∧ yX6_costBy.cls ≠ "java/lang/invoke/MethodHandle" ∧ yX6_costBy.cls ≠ "java/lang/invoke/VarHandle" ∧ (parseMethodDescriptor yX6_costBy.desc).map (fun d => d.parameters.length) = some 3 := by decide +kernel
theorem vX6_costBy_6 : ∀ w ∈ u_ws RX6 TX6 8, w ∈ wsX6_costBy := by decide +kernel
theorem kX6_costBy_24 : Cond.fieldLink RX6 24 (TX6 4).1 (TX6 4).2.1 (TX6 4).2.2.1 ∈ wsX6_costBy := by decide +kernel
theorem kX6_costBy_9 : Cond.fieldLink RX6 9 (TX6 0).1 (TX6 0).2.1 (TX6 0).2.2.1 ∈ wsX6_costBy := by decide +kernel
theorem kX6_costBy_30 : Cond.fieldLink RX6 30 (TX6 6).1 (TX6 6).2.1 (TX6 6).2.2.1 ∈ wsX6_costBy := by decide +kernel
theorem kX6_costBy_27 : Cond.fieldLink RX6 27 (TX6 5).1 (TX6 5).2.1 (TX6 5).2.2.1 ∈ wsX6_costBy := by decide +kernel
theorem kX6_costBy_33 : Cond.fieldLink RX6 33 (TX6 7).1 (TX6 7).2.1 (TX6 7).2.2.1 ∈ wsX6_costBy := by decide +kernel
theorem jX6_costBy_56_0 : Cond.methodLink RX6 56 Lib.Math.min.name ∈ wsX6_costBy := by decide +kernel
theorem jX6_costBy_56_1 : Cond.static Lib.Math.min.name ∈ wsX6_costBy := by decide +kernel
theorem jX6_costBy_56_2 : Cond.initialized "java/lang/Math" ∈ wsX6_costBy := by decide +kernel
theorem jX6_costBy_56_3 : Cond.code Lib.Math.min.name Lib.Math.min.code 2 (some .int) ∈ wsX6_costBy := by decide +kernel
def fX6_costBy (μ : rj_M) (a0 : Int32) (a1 : Int32) (a2 : Int32) : Int32 := (if a0 < 0 then (1000000) else (if 24 ≤ a0 then (1000000) else (if a1 < 0 then (1000000) else (if a2 < 0 then (1000000) else (if 16 ≤ a2 then (1000000) else (if (μ.1 31 a0.toNatClampNeg) ≤ (μ.1 35 a2.toNatClampNeg) then (if (1000000) < (((μ.1 37 a2.toNatClampNeg) + (μ.1 36 (a2 &&& (a1 ^^^ (-1))).toNatClampNeg)) + (μ.1 38 (((a0 + 1) * 16) + a2).toNatClampNeg)) then (1000000) else (((μ.1 37 a2.toNatClampNeg) + (μ.1 36 (a2 &&& (a1 ^^^ (-1))).toNatClampNeg)) + (μ.1 38 (((a0 + 1) * 16) + a2).toNatClampNeg))) else (1000000)))))))
set_option maxHeartbeats 4000000 in
set_option maxRecDepth 100000 in
theorem sX6_costBy {g : rj_G} {ω : rj_W} (hω : rj_ok ω) (μ : rj_M) (a0 : Int32) (a1 : Int32) (a2 : Int32)   : rj_Sp g yX6_costBy wsX6_costBy (rj_rm 1 0) [.ref (ω.2.2 30), .int a0, .int a1, .int a2] ω μ (rj_D (.inl (some (.int (fX6_costBy μ a0 a1 a2)))) ω μ) := by
  refine rj_of' (cc := cX6_costBy) (nL := 5) (ret := (some .int)) (own := RX6) (l0 := [(0, .ref (ω.2.2 30)), (1, .int a0), (2, .int a1), (3, .int a2)]) rfl (by decide +kernel) rfl (Nat.le_of_ble_eq_true rfl) rfl ?_
  refine rj_iload_n 1 dX6_costBy_0 rfl rfl ?_
  refine rj_if_lt dX6_costBy_1 rfl rfl (fun h1 => ?_) (fun h1 => ?_)
  · refine rj_ldc (v := (1000000)) dX6_costBy_39 rfl (by decide +kernel) ?_
    exact rj_iret dX6_costBy_41 rfl (Nat.le_of_ble_eq_true rfl) (Nat.le_of_ble_eq_true rfl) ⟨(by unfold fX6_costBy; rw [if_pos h1]; try rfl), rfl, rfl⟩
  · refine rj_iload_n 1 dX6_costBy_4 rfl rfl ?_
    refine rj_bipush (v := 24) dX6_costBy_5 rfl (by decide) ?_
    refine rj_icmp_ge dX6_costBy_7 rfl rfl (fun h2 => ?_) (fun h2 => ?_)
    · refine rj_ldc (v := (1000000)) dX6_costBy_39 rfl (by decide +kernel) ?_
      exact rj_iret dX6_costBy_41 rfl (Nat.le_of_ble_eq_true rfl) (Nat.le_of_ble_eq_true rfl) ⟨(by unfold fX6_costBy; rw [if_neg h1]; rw [if_pos h2]; try rfl), rfl, rfl⟩
    · refine rj_iload_n 2 dX6_costBy_10 rfl rfl ?_
      refine rj_if_lt dX6_costBy_11 rfl rfl (fun h3 => ?_) (fun h3 => ?_)
      · refine rj_ldc (v := (1000000)) dX6_costBy_39 rfl (by decide +kernel) ?_
        exact rj_iret dX6_costBy_41 rfl (Nat.le_of_ble_eq_true rfl) (Nat.le_of_ble_eq_true rfl) ⟨(by unfold fX6_costBy; rw [if_neg h1]; rw [if_neg h2]; rw [if_pos h3]; try rfl), rfl, rfl⟩
      · refine rj_iload_n 3 dX6_costBy_14 rfl rfl ?_
        refine rj_if_lt dX6_costBy_15 rfl rfl (fun h4 => ?_) (fun h4 => ?_)
        · refine rj_ldc (v := (1000000)) dX6_costBy_39 rfl (by decide +kernel) ?_
          exact rj_iret dX6_costBy_41 rfl (Nat.le_of_ble_eq_true rfl) (Nat.le_of_ble_eq_true rfl) ⟨(by unfold fX6_costBy; rw [if_neg h1]; rw [if_neg h2]; rw [if_neg h3]; rw [if_pos h4]; try rfl), rfl, rfl⟩
        · refine rj_iload_n 3 dX6_costBy_18 rfl rfl ?_
          refine rj_bipush (v := 16) dX6_costBy_19 rfl (by decide) ?_
          refine rj_icmp_ge dX6_costBy_21 rfl rfl (fun h5 => ?_) (fun h5 => ?_)
          · refine rj_ldc (v := (1000000)) dX6_costBy_39 rfl (by decide +kernel) ?_
            exact rj_iret dX6_costBy_41 rfl (Nat.le_of_ble_eq_true rfl) (Nat.le_of_ble_eq_true rfl) ⟨(by unfold fX6_costBy; rw [if_neg h1]; rw [if_neg h2]; rw [if_neg h3]; rw [if_neg h4]; rw [if_pos h5]; try rfl), rfl, rfl⟩
          · refine rj_aload_n 0 dX6_costBy_24 rfl rfl ?_
            refine rj_getR (C0 := RX6) (T := TX6) (N := 8) (j := 4) (r := 35) dX6_costBy_25 rfl vX6_costBy_6 rfl (rj_lt hω (k := 30) rfl) (rj_sh hω ly_30) (by decide) kX6_costBy_24 rfl ?_
            refine rj_iload_n 3 dX6_costBy_28 rfl rfl ?_
            refine rj_iald dX6_costBy_29 rfl (rj_lt hω (k := 35) rfl) (rj_sh hω ly_35) (rj_in h4 h5 rfl) ?_
            refine rj_aload_n 0 dX6_costBy_30 rfl rfl ?_
            refine rj_getR (C0 := RX6) (T := TX6) (N := 8) (j := 0) (r := 31) dX6_costBy_31 rfl vX6_costBy_6 rfl (rj_lt hω (k := 30) rfl) (rj_sh hω ly_30) (by decide) kX6_costBy_9 rfl ?_
            refine rj_iload_n 1 dX6_costBy_34 rfl rfl ?_
            refine rj_iald dX6_costBy_35 rfl (rj_lt hω (k := 31) rfl) (rj_sh hω ly_31) (rj_in h1 h2 rfl) ?_
            refine rj_icmp_ge dX6_costBy_36 rfl rfl (fun h6 => ?_) (fun h6 => ?_)
            · refine rj_aload_n 0 dX6_costBy_42 rfl rfl ?_
              refine rj_getR (C0 := RX6) (T := TX6) (N := 8) (j := 6) (r := 37) dX6_costBy_43 rfl vX6_costBy_6 rfl (rj_lt hω (k := 30) rfl) (rj_sh hω ly_30) (by decide) kX6_costBy_30 rfl ?_
              refine rj_iload_n 3 dX6_costBy_46 rfl rfl ?_
              refine rj_iald dX6_costBy_47 rfl (rj_lt hω (k := 37) rfl) (rj_sh hω ly_37) (rj_in h4 h5 rfl) ?_
              refine rj_aload_n 0 dX6_costBy_48 rfl rfl ?_
              refine rj_getR (C0 := RX6) (T := TX6) (N := 8) (j := 5) (r := 36) dX6_costBy_49 rfl vX6_costBy_6 rfl (rj_lt hω (k := 30) rfl) (rj_sh hω ly_30) (by decide) kX6_costBy_27 rfl ?_
              refine rj_iload_n 3 dX6_costBy_52 rfl rfl ?_
              refine rj_iload_n 2 dX6_costBy_53 rfl rfl ?_
              refine rj_iconst (v := (-1)) dX6_costBy_54 rfl (by decide) ?_
              refine rj_ixor dX6_costBy_55 rfl ?_
              refine rj_iand dX6_costBy_56 rfl ?_
              refine rj_iald dX6_costBy_57 rfl (rj_lt hω (k := 36) rfl) (rj_sh hω ly_36) (rj_andin (k := 4) (rj_in h4 h5 rfl) rfl (by decide)) ?_
              refine rj_iadd dX6_costBy_58 rfl ?_
              refine rj_aload_n 0 dX6_costBy_59 rfl rfl ?_
              refine rj_getR (C0 := RX6) (T := TX6) (N := 8) (j := 7) (r := 38) dX6_costBy_60 rfl vX6_costBy_6 rfl (rj_lt hω (k := 30) rfl) (rj_sh hω ly_30) (by decide) kX6_costBy_33 rfl ?_
              refine rj_iload_n 1 dX6_costBy_63 rfl rfl ?_
              refine rj_iconst (v := 1) dX6_costBy_64 rfl (by decide) ?_
              refine rj_iadd dX6_costBy_65 rfl ?_
              refine rj_bipush (v := 16) dX6_costBy_66 rfl (by decide) ?_
              refine rj_imul dX6_costBy_68 rfl ?_
              refine rj_iload_n 3 dX6_costBy_69 rfl rfl ?_
              refine rj_iadd dX6_costBy_70 rfl ?_
              refine rj_iald dX6_costBy_71 rfl (rj_lt hω (k := 38) rfl) (rj_sh hω ly_38) (rj_costin h1 h2 h4 h5) ?_
              refine rj_iadd dX6_costBy_72 rfl ?_
              refine rj_istore (l' := [(4, .int (((μ.1 37 a2.toNatClampNeg) + (μ.1 36 (a2 &&& (a1 ^^^ (-1))).toNatClampNeg)) + (μ.1 38 (((a0 + 1) * 16) + a2).toNatClampNeg))), (0, .ref (ω.2.2 30)), (1, .int a0), (2, .int a1), (3, .int a2)]) dX6_costBy_73 rfl (rj_bl rfl) rfl ?_
              refine rj_iload 0 dX6_costBy_75 rfl rfl ?_
              refine rj_ldc (v := (1000000)) dX6_costBy_77 rfl (by decide +kernel) ?_
              refine rj_mmin dX6_costBy_79 rfl jX6_costBy_56_0 jX6_costBy_56_1 jX6_costBy_56_2 jX6_costBy_56_3 (Nat.le_of_ble_eq_true rfl) (Nat.le_of_ble_eq_true rfl) (Nat.le_of_ble_eq_true rfl) (Nat.le_of_ble_eq_true rfl) ?_
              exact rj_iret dX6_costBy_82 rfl (Nat.le_of_ble_eq_true rfl) (Nat.le_of_ble_eq_true rfl) ⟨(by unfold fX6_costBy; rw [if_neg h1]; rw [if_neg h2]; rw [if_neg h3]; rw [if_neg h4]; rw [if_neg h5]; rw [if_pos h6]; try rfl), rfl, rfl⟩
            · refine rj_ldc (v := (1000000)) dX6_costBy_39 rfl (by decide +kernel) ?_
              exact rj_iret dX6_costBy_41 rfl (Nat.le_of_ble_eq_true rfl) (Nat.le_of_ble_eq_true rfl) ⟨(by unfold fX6_costBy; rw [if_neg h1]; rw [if_neg h2]; rw [if_neg h3]; rw [if_neg h4]; rw [if_neg h5]; rw [if_neg h6]; try rfl), rfl, rfl⟩
theorem hSX6_bestAt : yX6_bestAt.cls ≠ "java/lang/invoke/MethodHandle" ∧ yX6_bestAt.cls ≠ "java/lang/invoke/VarHandle" ∧ (parseMethodDescriptor yX6_bestAt.desc).map (fun d => d.parameters.length) = some 2 := by decide +kernel
theorem hVX6_bestAt : yX6_bestAt.cls = RX6 ∧ yX6_bestAt.cls ≠ "java/lang/invoke/MethodHandle" ∧ yX6_bestAt.cls ≠ "java/lang/invoke/VarHandle" ∧ (parseMethodDescriptor yX6_bestAt.desc).map (fun d => d.parameters.length) = some 2 := by decide +kernel
def bX6_bestAt_9 (μ : rj_M) (a0 : Int32) (a1 : Int32) (j9 : Nat) (s9 : Int32 × Int32) : (Int32 × Int32) := (if s9.2 ≤ (fX6_costBy μ a0 a1 (nI j9)) then (s9.1, s9.2) else (nI j9, (fX6_costBy μ a0 a1 (nI j9))))
set_option maxHeartbeats 4000000 in
set_option maxRecDepth 100000 in
theorem lX6_bestAt_9 {g : rj_G} {ω : rj_W} (hω : rj_ok ω) (μ : rj_M) (a0 : Int32) (a1 : Int32)     {F : rj_F} : ∀ (r j : Nat) (s : Int32 × Int32), j + r = 16 → (rj_R g RX6 cX6_bestAt 7 (some .int) wsX6_bestAt [] (rj_rm 2 0) F 0 ω μ [(0, .ref (ω.2.2 30)), (1, .int a0), (2, .int a1), (3, .int ((rj_fo (bX6_bestAt_9 μ a0 a1) r j s).1)), (4, .int ((rj_fo (bX6_bestAt_9 μ a0 a1) r j s).2)), (5, .int (nI 16))] 46 []) → rj_R g RX6 cX6_bestAt 7 (some .int) wsX6_bestAt [] (rj_rm 2 0) F 0 ω μ [(0, .ref (ω.2.2 30)), (1, .int a0), (2, .int a1), (3, .int s.1), (4, .int s.2), (5, .int (nI j))] 9 [] := by
  intro r
  induction r with
  | zero =>
    intro j s hj K
    have e0 : j = 16 := by omega
    have hge : 16 ≤ nI j := by
      rw [e0]
      exact Int32.le_refl _
    refine rj_iload 5 dX6_bestAt_9 rfl rfl ?_
    refine rj_bipush (v := 16) dX6_bestAt_11 rfl (by decide) ?_
    refine rj_icmp_ge dX6_bestAt_13 rfl rfl (fun h3 => ?_) (fun h3 => ?_)
    · have e1 : nI j = nI 16 := by rw [e0]
      rw [e1]
      exact K
    · exact absurd hge h3
  | succ r ih =>
    intro j9 s9 hj K
    have hl9 : j9 < 16 := by omega
    have hg9 : ¬ 16 ≤ nI j9 := nI_ge hl9 (rj_bl rfl)
    refine rj_iload 5 dX6_bestAt_9 rfl rfl ?_
    refine rj_bipush (v := 16) dX6_bestAt_11 rfl (by decide) ?_
    refine rj_icmp_ge dX6_bestAt_13 rfl rfl (fun h1 => ?_) (fun h1 => ?_)
    · exact absurd h1 hg9
    · refine rj_aload_n 0 dX6_bestAt_16 rfl rfl ?_
      refine rj_iload_n 1 dX6_bestAt_17 rfl rfl ?_
      refine rj_iload_n 2 dX6_bestAt_18 rfl rfl ?_
      refine rj_iload 5 dX6_bestAt_19 rfl rfl ?_
      refine rj_cV (rest := []) (sX6_costBy (g := g) (ω := ω) hω μ a0 a1 (nI j9)  ) gX6_bestAt_X6_costBy (rj_lt hω (k := 30) rfl) (rj_sh hω ly_30) rfl rfl hVX6_costBy ⟨Nat.le_of_ble_eq_true rfl, Nat.le_of_ble_eq_true rfl⟩ dX6_bestAt_21 rfl rfl rfl (Nat.le_of_ble_eq_true rfl) rfl (Nat.le_of_ble_eq_true rfl) rfl ?_
      refine rj_istore (l' := [(6, .int (fX6_costBy μ a0 a1 (nI j9))), (0, .ref (ω.2.2 30)), (1, .int a0), (2, .int a1), (3, .int s9.1), (4, .int s9.2), (5, .int (nI j9))]) dX6_bestAt_24 rfl (rj_bl rfl) rfl ?_
      refine rj_iload 0 dX6_bestAt_26 rfl rfl ?_
      refine rj_iload 5 dX6_bestAt_28 rfl rfl ?_
      refine rj_icmp_ge dX6_bestAt_30 rfl rfl (fun h2 => ?_) (fun h2 => ?_)
      · refine rj_iinc (v := nI (j9 + 1)) (l' := [(5, .int (nI (j9 + 1))), (6, .int (fX6_costBy μ a0 a1 (nI j9))), (0, .ref (ω.2.2 30)), (1, .int a0), (2, .int a1), (3, .int s9.1), (4, .int s9.2)]) 6 dX6_bestAt_40 rfl rfl (nI_succ j9).symm (rj_bl rfl) rfl ?_
        refine rj_goto dX6_bestAt_43 rfl ?_
        have e : bX6_bestAt_9 μ a0 a1 j9 s9 = (s9.1, s9.2) := by unfold bX6_bestAt_9; rw [if_pos h2]; try rfl
        exact rj_sub (l' := [(0, .ref (ω.2.2 30)), (1, .int a0), (2, .int a1), (3, .int s9.1), (4, .int s9.2), (5, .int (nI (j9 + 1)))]) [2, 3, 4, 5, 6, 0] rfl (ih (j9 + 1) (s9.1, s9.2) (by omega) (by rw [rj_fo_s, e] at K; exact K))
      · refine rj_iload 0 dX6_bestAt_33 rfl rfl ?_
        refine rj_istore (l' := [(4, .int (fX6_costBy μ a0 a1 (nI j9))), (6, .int (fX6_costBy μ a0 a1 (nI j9))), (0, .ref (ω.2.2 30)), (1, .int a0), (2, .int a1), (3, .int s9.1), (5, .int (nI j9))]) dX6_bestAt_35 rfl (rj_bl rfl) rfl ?_
        refine rj_iload 6 dX6_bestAt_37 rfl rfl ?_
        refine rj_istore_n (l' := [(3, .int (nI j9)), (4, .int (fX6_costBy μ a0 a1 (nI j9))), (6, .int (fX6_costBy μ a0 a1 (nI j9))), (0, .ref (ω.2.2 30)), (1, .int a0), (2, .int a1), (5, .int (nI j9))]) dX6_bestAt_39 rfl (rj_bl rfl) rfl ?_
        refine rj_iinc (v := nI (j9 + 1)) (l' := [(5, .int (nI (j9 + 1))), (3, .int (nI j9)), (4, .int (fX6_costBy μ a0 a1 (nI j9))), (6, .int (fX6_costBy μ a0 a1 (nI j9))), (0, .ref (ω.2.2 30)), (1, .int a0), (2, .int a1)]) 6 dX6_bestAt_40 rfl rfl (nI_succ j9).symm (rj_bl rfl) rfl ?_
        refine rj_goto dX6_bestAt_43 rfl ?_
        have e : bX6_bestAt_9 μ a0 a1 j9 s9 = (nI j9, (fX6_costBy μ a0 a1 (nI j9))) := by unfold bX6_bestAt_9; rw [if_neg h2]; try rfl
        exact rj_sub (l' := [(0, .ref (ω.2.2 30)), (1, .int a0), (2, .int a1), (3, .int (nI j9)), (4, .int (fX6_costBy μ a0 a1 (nI j9))), (5, .int (nI (j9 + 1)))]) [4, 5, 6, 1, 2, 0] rfl (ih (j9 + 1) (nI j9, (fX6_costBy μ a0 a1 (nI j9))) (by omega) (by rw [rj_fo_s, e] at K; exact K))
set_option maxHeartbeats 4000000 in
theorem lX6_bestAt_9u {g : rj_G} {ω : rj_W} (hω : rj_ok ω) (μ : rj_M) (a0 : Int32) (a1 : Int32)     {F : rj_F} : ∀ (r j : Nat) (c0 : Int32) (c1 : Int32), j + r = 16 → (rj_R g RX6 cX6_bestAt 7 (some .int) wsX6_bestAt [] (rj_rm 2 0) F 0 ω μ [(0, .ref (ω.2.2 30)), (1, .int a0), (2, .int a1), (3, .int ((rj_fo (bX6_bestAt_9 μ a0 a1) r j (c0, c1)).1)), (4, .int ((rj_fo (bX6_bestAt_9 μ a0 a1) r j (c0, c1)).2)), (5, .int (nI 16))] 46 []) → rj_R g RX6 cX6_bestAt 7 (some .int) wsX6_bestAt [] (rj_rm 2 0) F 0 ω μ [(0, .ref (ω.2.2 30)), (1, .int a0), (2, .int a1), (3, .int c0), (4, .int c1), (5, .int (nI j))] 9 [] := fun r j c0 c1 => lX6_bestAt_9 hω μ a0 a1     r j (c0, c1)
def fX6_bestAt (μ : rj_M) (a0 : Int32) (a1 : Int32) : Int32 := (rj_fo (bX6_bestAt_9 μ a0 a1) 16 0 (0, (1000000))).1
set_option maxHeartbeats 4000000 in
set_option maxRecDepth 100000 in
theorem sX6_bestAt {g : rj_G} {ω : rj_W} (hω : rj_ok ω) (μ : rj_M) (a0 : Int32) (a1 : Int32)   : rj_Sp g yX6_bestAt wsX6_bestAt (rj_rm 2 0) [.ref (ω.2.2 30), .int a0, .int a1] ω μ (rj_D (.inl (some (.int (fX6_bestAt μ a0 a1)))) ω μ) := by
  refine rj_of' (cc := cX6_bestAt) (nL := 7) (ret := (some .int)) (own := RX6) (l0 := [(0, .ref (ω.2.2 30)), (1, .int a0), (2, .int a1)]) rfl (by decide +kernel) rfl (Nat.le_of_ble_eq_true rfl) rfl ?_
  refine rj_iconst (v := 0) dX6_bestAt_0 rfl (by decide) ?_
  refine rj_istore_n (l' := [(3, .int 0), (0, .ref (ω.2.2 30)), (1, .int a0), (2, .int a1)]) dX6_bestAt_1 rfl (rj_bl rfl) rfl ?_
  refine rj_ldc (v := (1000000)) dX6_bestAt_2 rfl (by decide +kernel) ?_
  refine rj_istore (l' := [(4, .int (1000000)), (3, .int 0), (0, .ref (ω.2.2 30)), (1, .int a0), (2, .int a1)]) dX6_bestAt_4 rfl (rj_bl rfl) rfl ?_
  refine rj_iconst (v := 0) dX6_bestAt_6 rfl (by decide) ?_
  refine rj_istore (l' := [(5, .int 0), (4, .int (1000000)), (3, .int 0), (0, .ref (ω.2.2 30)), (1, .int a0), (2, .int a1)]) dX6_bestAt_7 rfl (rj_bl rfl) rfl ?_
  refine rj_sub (l' := [(0, .ref (ω.2.2 30)), (1, .int a0), (2, .int a1), (3, .int 0), (4, .int (1000000)), (5, .int (nI 0))]) [3, 4, 5, 2, 1, 0] rfl ?_
  refine lX6_bestAt_9u hω μ a0 a1     16 0 0 (1000000) rfl ?_
  refine rj_iload_n 3 dX6_bestAt_46 rfl rfl ?_
  exact rj_iret dX6_bestAt_47 rfl (Nat.le_of_ble_eq_true rfl) (Nat.le_of_ble_eq_true rfl) ⟨(by unfold fX6_bestAt; rfl), rfl, rfl⟩
theorem hSX6_planCosts : yX6_planCosts.cls ≠ "java/lang/invoke/MethodHandle" ∧ yX6_planCosts.cls ≠ "java/lang/invoke/VarHandle" ∧ (parseMethodDescriptor yX6_planCosts.desc).map (fun d => d.parameters.length) = some 0 := by decide +kernel
theorem hVX6_planCosts : yX6_planCosts.cls = RX6 ∧ yX6_planCosts.cls ≠ "java/lang/invoke/MethodHandle" ∧ yX6_planCosts.cls ≠ "java/lang/invoke/VarHandle" ∧ (parseMethodDescriptor yX6_planCosts.desc).map (fun d => d.parameters.length) = some 0 := by decide +kernel
theorem vX6_planCosts_6 : ∀ w ∈ u_ws RX6 TX6 8, w ∈ wsX6_planCosts := by decide +kernel
theorem kX6_planCosts_15 : Cond.fieldLink RX6 15 (TX6 1).1 (TX6 1).2.1 (TX6 1).2.2.1 ∈ wsX6_planCosts := by decide +kernel
theorem kX6_planCosts_24 : Cond.fieldLink RX6 24 (TX6 4).1 (TX6 4).2.1 (TX6 4).2.2.1 ∈ wsX6_planCosts := by decide +kernel
theorem kX6_planCosts_18 : Cond.fieldLink RX6 18 (TX6 2).1 (TX6 2).2.1 (TX6 2).2.2.1 ∈ wsX6_planCosts := by decide +kernel
theorem kX6_planCosts_27 : Cond.fieldLink RX6 27 (TX6 5).1 (TX6 5).2.1 (TX6 5).2.2.1 ∈ wsX6_planCosts := by decide +kernel
theorem kX6_planCosts_21 : Cond.fieldLink RX6 21 (TX6 3).1 (TX6 3).2.1 (TX6 3).2.2.1 ∈ wsX6_planCosts := by decide +kernel
theorem kX6_planCosts_30 : Cond.fieldLink RX6 30 (TX6 6).1 (TX6 6).2.1 (TX6 6).2.2.1 ∈ wsX6_planCosts := by decide +kernel
theorem kX6_planCosts_33 : Cond.fieldLink RX6 33 (TX6 7).1 (TX6 7).2.1 (TX6 7).2.2.1 ∈ wsX6_planCosts := by decide +kernel
theorem jX6_planCosts_43_i : Cond.initialized yX11_fillRow.cls ∈ wsX6_planCosts := by decide +kernel
theorem jX6_planCosts_43_s : Cond.static yX11_fillRow ∈ wsX6_planCosts := by decide +kernel
theorem jX6_planCosts_43_n : (RX6, 43, yX11_fillRow, "Festivalgrounds") ∈ rj_nw := by decide +kernel
def bX6_planCosts_50 (μ : rj_M) (j44 : Nat) (s44 : rj_M) (j50 : Nat) (s50 : rj_M) : rj_M := (rj_pi s50 38 (((nI j44) * 16) + (nI j50)).toNatClampNeg (fX6_costBy s50 (nI j44) (nI j50) (fX6_bestAt s50 (nI j44) (nI j50))))
set_option maxHeartbeats 4000000 in
set_option maxRecDepth 100000 in
theorem lX6_planCosts_50 {g : rj_G} {ω : rj_W} (hω : rj_ok ω) (μ : rj_M) (j44 : Nat) (s44 : rj_M)   (hl44 : j44 < 24)  {F : rj_F} : ∀ (r j : Nat) (s : rj_M), j + r = 16 → (rj_R g RX6 cX6_planCosts 3 none wsX6_planCosts [] (rj_rm 3 0) F 0 ω (rj_fo (bX6_planCosts_50 μ j44 s44) r j s) [(0, .ref (ω.2.2 30)), (1, .int (nI j44)), (2, .int (nI 16))] 85 []) → rj_R g RX6 cX6_planCosts 3 none wsX6_planCosts [] (rj_rm 3 0) F 0 ω s [(0, .ref (ω.2.2 30)), (1, .int (nI j44)), (2, .int (nI j))] 50 [] := by
  intro r
  induction r with
  | zero =>
    intro j s hj K
    have e0 : j = 16 := by omega
    have hge : 16 ≤ nI j := by
      rw [e0]
      exact Int32.le_refl _
    refine rj_iload_n 2 dX6_planCosts_50 rfl rfl ?_
    refine rj_bipush (v := 16) dX6_planCosts_51 rfl (by decide) ?_
    refine rj_icmp_ge dX6_planCosts_53 rfl rfl (fun h3 => ?_) (fun h3 => ?_)
    · have e1 : nI j = nI 16 := by rw [e0]
      rw [e1]
      exact K
    · exact absurd hge h3
  | succ r ih =>
    intro j50 s50 hj K
    have hl50 : j50 < 16 := by omega
    have hg50 : ¬ 16 ≤ nI j50 := nI_ge hl50 (rj_bl rfl)
    refine rj_iload_n 2 dX6_planCosts_50 rfl rfl ?_
    refine rj_bipush (v := 16) dX6_planCosts_51 rfl (by decide) ?_
    refine rj_icmp_ge dX6_planCosts_53 rfl rfl (fun h2 => ?_) (fun h2 => ?_)
    · exact absurd h2 hg50
    · refine rj_aload_n 0 dX6_planCosts_56 rfl rfl ?_
      refine rj_getR (C0 := RX6) (T := TX6) (N := 8) (j := 7) (r := 38) dX6_planCosts_57 rfl vX6_planCosts_6 rfl (rj_lt hω (k := 30) rfl) (rj_sh hω ly_30) (by decide) kX6_planCosts_33 rfl ?_
      refine rj_iload_n 1 dX6_planCosts_60 rfl rfl ?_
      refine rj_bipush (v := 16) dX6_planCosts_61 rfl (by decide) ?_
      refine rj_imul dX6_planCosts_63 rfl ?_
      refine rj_iload_n 2 dX6_planCosts_64 rfl rfl ?_
      refine rj_iadd dX6_planCosts_65 rfl ?_
      refine rj_aload_n 0 dX6_planCosts_66 rfl rfl ?_
      refine rj_iload_n 1 dX6_planCosts_67 rfl rfl ?_
      refine rj_iload_n 2 dX6_planCosts_68 rfl rfl ?_
      refine rj_aload_n 0 dX6_planCosts_69 rfl rfl ?_
      refine rj_iload_n 1 dX6_planCosts_70 rfl rfl ?_
      refine rj_iload_n 2 dX6_planCosts_71 rfl rfl ?_
      refine rj_cV (rest := [.int (nI j50), .int (nI j44), .ref (ω.2.2 30), .int (((nI j44) * 16) + (nI j50)), .ref (ω.2.2 38)]) (sX6_bestAt (g := g) (ω := ω) hω s50 (nI j44) (nI j50)  ) gX6_planCosts_X6_bestAt (rj_lt hω (k := 30) rfl) (rj_sh hω ly_30) rfl rfl hVX6_bestAt ⟨Nat.le_of_ble_eq_true rfl, Nat.le_of_ble_eq_true rfl⟩ dX6_planCosts_72 rfl rfl rfl (Nat.le_of_ble_eq_true rfl) rfl (Nat.le_of_ble_eq_true rfl) rfl ?_
      refine rj_cV (rest := [.int (((nI j44) * 16) + (nI j50)), .ref (ω.2.2 38)]) (sX6_costBy (g := g) (ω := ω) hω s50 (nI j44) (nI j50) (fX6_bestAt s50 (nI j44) (nI j50))  ) gX6_planCosts_X6_costBy (rj_lt hω (k := 30) rfl) (rj_sh hω ly_30) rfl rfl hVX6_costBy ⟨Nat.le_of_ble_eq_true rfl, Nat.le_of_ble_eq_true rfl⟩ dX6_planCosts_75 rfl rfl rfl (Nat.le_of_ble_eq_true rfl) rfl (Nat.le_of_ble_eq_true rfl) rfl ?_
      refine rj_iast dX6_planCosts_78 rfl (rj_lt hω (k := 38) rfl) (rj_sh hω ly_38) (rj_costin2 hl44 hl50) ?_
      refine rj_iinc (v := nI (j50 + 1)) (l' := [(2, .int (nI (j50 + 1))), (0, .ref (ω.2.2 30)), (1, .int (nI j44))]) 2 dX6_planCosts_79 rfl rfl (nI_succ j50).symm (rj_bl rfl) rfl ?_
      refine rj_goto dX6_planCosts_82 rfl ?_
      have e : bX6_planCosts_50 μ j44 s44 j50 s50 = (rj_pi s50 38 (((nI j44) * 16) + (nI j50)).toNatClampNeg (fX6_costBy s50 (nI j44) (nI j50) (fX6_bestAt s50 (nI j44) (nI j50)))) := by unfold bX6_planCosts_50; rfl
      exact rj_sub (l' := [(0, .ref (ω.2.2 30)), (1, .int (nI j44)), (2, .int (nI (j50 + 1)))]) [1, 2, 0] rfl (ih (j50 + 1) (rj_pi s50 38 (((nI j44) * 16) + (nI j50)).toNatClampNeg (fX6_costBy s50 (nI j44) (nI j50) (fX6_bestAt s50 (nI j44) (nI j50)))) (by omega) (by rw [rj_fo_s, e] at K; exact K))
def bX6_planCosts_44 (μ : rj_M) (j44 : Nat) (s44 : rj_M) : rj_M := (rj_fo (bX6_planCosts_50 μ j44 s44) 16 0 s44)
set_option maxHeartbeats 4000000 in
set_option maxRecDepth 100000 in
theorem lX6_planCosts_44 {g : rj_G} {ω : rj_W} (hω : rj_ok ω) (μ : rj_M)   {F : rj_F} : ∀ (r : Nat) (s : rj_M), r ≤ 24 → (rj_R g RX6 cX6_planCosts 3 none wsX6_planCosts [] (rj_rm 3 0) F 0 ω (rj_do (bX6_planCosts_44 μ) r s) [(0, .ref (ω.2.2 30)), (1, .int (nI 0 - 1))] 91 []) → rj_R g RX6 cX6_planCosts 3 none wsX6_planCosts [] (rj_rm 3 0) F 0 ω s [(0, .ref (ω.2.2 30)), (1, .int (nI r - 1))] 44 [] := by
  intro r
  induction r with
  | zero =>
    intro s hj K
    have hge : nI 0 - 1 < 0 := by decide
    refine rj_iload_n 1 dX6_planCosts_44 rfl rfl ?_
    refine rj_if_lt dX6_planCosts_45 rfl rfl (fun h4 => ?_) (fun h4 => ?_)
    · exact K
    · exact absurd hge h4
  | succ j44 ih =>
    intro s44 hj K
    have hl44 : j44 < 24 := by omega
    have hg44 : ¬ nI j44 < 0 := nI_pos (Nat.lt_trans hl44 (rj_bl rfl))
    rw [show nI (j44 + 1) - 1 = nI j44 from nI_pred j44]
    refine rj_iload_n 1 dX6_planCosts_44 rfl rfl ?_
    refine rj_if_lt dX6_planCosts_45 rfl rfl (fun h1 => ?_) (fun h1 => ?_)
    · exact absurd h1 hg44
    · refine rj_iconst (v := 0) dX6_planCosts_48 rfl (by decide) ?_
      refine rj_istore_n (l' := [(2, .int 0), (0, .ref (ω.2.2 30)), (1, .int (nI j44))]) dX6_planCosts_49 rfl (rj_bl rfl) rfl ?_
      refine rj_sub (l' := [(0, .ref (ω.2.2 30)), (1, .int (nI j44)), (2, .int (nI 0))]) [1, 2, 0] rfl ?_
      refine lX6_planCosts_50 hω μ j44 s44   hl44  16 0 s44 rfl ?_
      refine rj_iinc (v := (nI j44) + (-1)) (l' := [(1, .int ((nI j44) + (-1))), (0, .ref (ω.2.2 30)), (2, .int (nI 16))]) 1 dX6_planCosts_85 rfl rfl rfl (rj_bl rfl) rfl ?_
      refine rj_goto dX6_planCosts_88 rfl ?_
      have e : bX6_planCosts_44 μ j44 s44 = (rj_fo (bX6_planCosts_50 μ j44 s44) 16 0 s44) := by unfold bX6_planCosts_44; rfl
      rw [show nI j44 + (-1) = nI j44 - 1 from (Int32.sub_eq_add_neg ..).symm]
      exact rj_sub (l' := [(0, .ref (ω.2.2 30)), (1, .int (nI j44 - 1))]) [1, 0] rfl (ih (rj_fo (bX6_planCosts_50 μ j44 s44) 16 0 s44) (by omega) (by rw [rj_do_s, e] at K; exact K))
def mX6_planCosts (μ : rj_M) : rj_M := (rj_do (bX6_planCosts_44 μ) 24 (mX11_fillRow (mX6_addUp (mX6_addUp (mX6_addUp μ 32 4 35 16) 33 4 36 16) 34 4 37 16) 38 400 0))
set_option maxHeartbeats 4000000 in
set_option maxRecDepth 100000 in
theorem sX6_planCosts {g : rj_G} {ω : rj_W} (hω : rj_ok ω) (μ : rj_M)   : rj_Sp g yX6_planCosts wsX6_planCosts (rj_rm 3 0) [.ref (ω.2.2 30)] ω μ (rj_D (.inl none) ω (mX6_planCosts μ)) := by
  refine rj_of' (cc := cX6_planCosts) (nL := 3) (ret := none) (own := RX6) (l0 := [(0, .ref (ω.2.2 30))]) rfl (by decide +kernel) rfl (Nat.le_of_ble_eq_true rfl) rfl ?_
  refine rj_aload_n 0 dX6_planCosts_0 rfl rfl ?_
  refine rj_getR (C0 := RX6) (T := TX6) (N := 8) (j := 1) (r := 32) dX6_planCosts_1 rfl vX6_planCosts_6 rfl (rj_lt hω (k := 30) rfl) (rj_sh hω ly_30) (by decide) kX6_planCosts_15 rfl ?_
  refine rj_aload_n 0 dX6_planCosts_4 rfl rfl ?_
  refine rj_getR (C0 := RX6) (T := TX6) (N := 8) (j := 4) (r := 35) dX6_planCosts_5 rfl vX6_planCosts_6 rfl (rj_lt hω (k := 30) rfl) (rj_sh hω ly_30) (by decide) kX6_planCosts_24 rfl ?_
  refine rj_cS (rest := []) (sX6_addUp (g := g) (ω := ω) μ 32 4 35 16 (rj_lt hω (k := 32) rfl) (rj_sh hω ly_32) (rj_bl rfl) (rj_lt hω (k := 35) rfl) (rj_sh hω ly_35) (rj_bl rfl) ) gX6_planCosts_X6_addUp rfl hSX6_addUp ⟨Nat.le_of_ble_eq_true rfl, Nat.le_of_ble_eq_true rfl⟩ dX6_planCosts_8 rfl rfl rfl (Nat.le_of_ble_eq_true rfl) rfl (Nat.le_of_ble_eq_true rfl) rfl ?_
  refine rj_aload_n 0 dX6_planCosts_11 rfl rfl ?_
  refine rj_getR (C0 := RX6) (T := TX6) (N := 8) (j := 2) (r := 33) dX6_planCosts_12 rfl vX6_planCosts_6 rfl (rj_lt hω (k := 30) rfl) (rj_sh hω ly_30) (by decide) kX6_planCosts_18 rfl ?_
  refine rj_aload_n 0 dX6_planCosts_15 rfl rfl ?_
  refine rj_getR (C0 := RX6) (T := TX6) (N := 8) (j := 5) (r := 36) dX6_planCosts_16 rfl vX6_planCosts_6 rfl (rj_lt hω (k := 30) rfl) (rj_sh hω ly_30) (by decide) kX6_planCosts_27 rfl ?_
  refine rj_cS (rest := []) (sX6_addUp (g := g) (ω := ω) (mX6_addUp μ 32 4 35 16) 33 4 36 16 (rj_lt hω (k := 33) rfl) (rj_sh hω ly_33) (rj_bl rfl) (rj_lt hω (k := 36) rfl) (rj_sh hω ly_36) (rj_bl rfl) ) gX6_planCosts_X6_addUp rfl hSX6_addUp ⟨Nat.le_of_ble_eq_true rfl, Nat.le_of_ble_eq_true rfl⟩ dX6_planCosts_19 rfl rfl rfl (Nat.le_of_ble_eq_true rfl) rfl (Nat.le_of_ble_eq_true rfl) rfl ?_
  refine rj_aload_n 0 dX6_planCosts_22 rfl rfl ?_
  refine rj_getR (C0 := RX6) (T := TX6) (N := 8) (j := 3) (r := 34) dX6_planCosts_23 rfl vX6_planCosts_6 rfl (rj_lt hω (k := 30) rfl) (rj_sh hω ly_30) (by decide) kX6_planCosts_21 rfl ?_
  refine rj_aload_n 0 dX6_planCosts_26 rfl rfl ?_
  refine rj_getR (C0 := RX6) (T := TX6) (N := 8) (j := 6) (r := 37) dX6_planCosts_27 rfl vX6_planCosts_6 rfl (rj_lt hω (k := 30) rfl) (rj_sh hω ly_30) (by decide) kX6_planCosts_30 rfl ?_
  refine rj_cS (rest := []) (sX6_addUp (g := g) (ω := ω) (mX6_addUp (mX6_addUp μ 32 4 35 16) 33 4 36 16) 34 4 37 16 (rj_lt hω (k := 34) rfl) (rj_sh hω ly_34) (rj_bl rfl) (rj_lt hω (k := 37) rfl) (rj_sh hω ly_37) (rj_bl rfl) ) gX6_planCosts_X6_addUp rfl hSX6_addUp ⟨Nat.le_of_ble_eq_true rfl, Nat.le_of_ble_eq_true rfl⟩ dX6_planCosts_30 rfl rfl rfl (Nat.le_of_ble_eq_true rfl) rfl (Nat.le_of_ble_eq_true rfl) rfl ?_
  refine rj_aload_n 0 dX6_planCosts_33 rfl rfl ?_
  refine rj_getR (C0 := RX6) (T := TX6) (N := 8) (j := 7) (r := 38) dX6_planCosts_34 rfl vX6_planCosts_6 rfl (rj_lt hω (k := 30) rfl) (rj_sh hω ly_30) (by decide) kX6_planCosts_33 rfl ?_
  refine rj_iconst (v := 0) dX6_planCosts_37 rfl (by decide) ?_
  refine rj_cSN (rest := []) (sX11_fillRow (g := g) (ω := ω) (mX6_addUp (mX6_addUp (mX6_addUp μ 32 4 35 16) 33 4 36 16) 34 4 37 16) 38 400 0 (rj_lt hω (k := 38) rfl) (rj_sh hω ly_38) (rj_bl rfl) ) ggX6_planCosts_X11_fillRow jX6_planCosts_43_i jX6_planCosts_43_s jX6_planCosts_43_n rfl hSX11_fillRow ⟨Nat.le_of_ble_eq_true rfl, Nat.le_of_ble_eq_true rfl⟩ dX6_planCosts_38 rfl rfl rfl (Nat.le_of_ble_eq_true rfl) rfl (Nat.le_of_ble_eq_true rfl) rfl ?_
  refine rj_bipush (v := 23) dX6_planCosts_41 rfl (by decide) ?_
  refine rj_istore_n (l' := [(1, .int 23), (0, .ref (ω.2.2 30))]) dX6_planCosts_43 rfl (rj_bl rfl) rfl ?_
  refine rj_sub (l' := [(0, .ref (ω.2.2 30)), (1, .int (nI 24 - 1))]) [1, 0] rfl ?_
  refine lX6_planCosts_44 hω μ   24 (mX11_fillRow (mX6_addUp (mX6_addUp (mX6_addUp μ 32 4 35 16) 33 4 36 16) 34 4 37 16) 38 400 0) (Nat.le_refl _) ?_
  exact rj_vret dX6_planCosts_91 rfl (Nat.le_of_ble_eq_true rfl) (Nat.le_of_ble_eq_true rfl) ⟨rfl, rfl, (by unfold mX6_planCosts; rfl)⟩
theorem hSX6_leastCost : yX6_leastCost.cls ≠ "java/lang/invoke/MethodHandle" ∧ yX6_leastCost.cls ≠ "java/lang/invoke/VarHandle" ∧ (parseMethodDescriptor yX6_leastCost.desc).map (fun d => d.parameters.length) = some 0 := by decide +kernel
theorem hVX6_leastCost : yX6_leastCost.cls = RX6 ∧ yX6_leastCost.cls ≠ "java/lang/invoke/MethodHandle" ∧ yX6_leastCost.cls ≠ "java/lang/invoke/VarHandle" ∧ (parseMethodDescriptor yX6_leastCost.desc).map (fun d => d.parameters.length) = some 0 := by decide +kernel
theorem vX6_leastCost_6 : ∀ w ∈ u_ws RX6 TX6 8, w ∈ wsX6_leastCost := by decide +kernel
theorem kX6_leastCost_33 : Cond.fieldLink RX6 33 (TX6 7).1 (TX6 7).2.1 (TX6 7).2.2.1 ∈ wsX6_leastCost := by decide +kernel
def fX6_leastCost (μ : rj_M) : Int32 := (if (μ.1 38 (0 : Int32).toNatClampNeg) < (1000000) then (μ.1 38 (0 : Int32).toNatClampNeg) else (-1))
set_option maxHeartbeats 4000000 in
set_option maxRecDepth 100000 in
theorem sX6_leastCost {g : rj_G} {ω : rj_W} (hω : rj_ok ω) (μ : rj_M)   : rj_Sp g yX6_leastCost wsX6_leastCost (rj_rm 0 0) [.ref (ω.2.2 30)] ω μ (rj_D (.inl (some (.int (fX6_leastCost μ)))) ω μ) := by
  refine rj_of' (cc := cX6_leastCost) (nL := 1) (ret := (some .int)) (own := RX6) (l0 := [(0, .ref (ω.2.2 30))]) rfl (by decide +kernel) rfl (Nat.le_of_ble_eq_true rfl) rfl ?_
  refine rj_aload_n 0 dX6_leastCost_0 rfl rfl ?_
  refine rj_getR (C0 := RX6) (T := TX6) (N := 8) (j := 7) (r := 38) dX6_leastCost_1 rfl vX6_leastCost_6 rfl (rj_lt hω (k := 30) rfl) (rj_sh hω ly_30) (by decide) kX6_leastCost_33 rfl ?_
  refine rj_iconst (v := 0) dX6_leastCost_4 rfl (by decide) ?_
  refine rj_iald dX6_leastCost_5 rfl (rj_lt hω (k := 38) rfl) (rj_sh hω ly_38) (vp_in_nI (n := 0) (rj_bl rfl) (rj_bl rfl)) ?_
  refine rj_ldc (v := (1000000)) dX6_leastCost_6 rfl (by decide +kernel) ?_
  refine rj_icmp_lt dX6_leastCost_8 rfl rfl (fun h1 => ?_) (fun h1 => ?_)
  · refine rj_aload_n 0 dX6_leastCost_15 rfl rfl ?_
    refine rj_getR (C0 := RX6) (T := TX6) (N := 8) (j := 7) (r := 38) dX6_leastCost_16 rfl vX6_leastCost_6 rfl (rj_lt hω (k := 30) rfl) (rj_sh hω ly_30) (by decide) kX6_leastCost_33 rfl ?_
    refine rj_iconst (v := 0) dX6_leastCost_19 rfl (by decide) ?_
    refine rj_iald dX6_leastCost_20 rfl (rj_lt hω (k := 38) rfl) (rj_sh hω ly_38) (vp_in_nI (n := 0) (rj_bl rfl) (rj_bl rfl)) ?_
    exact rj_iret dX6_leastCost_21 rfl (Nat.le_of_ble_eq_true rfl) (Nat.le_of_ble_eq_true rfl) ⟨(by unfold fX6_leastCost; rw [if_pos h1]; try rfl), rfl, rfl⟩
  · refine rj_iconst (v := (-1)) dX6_leastCost_11 rfl (by decide) ?_
    refine rj_goto dX6_leastCost_12 rfl ?_
    exact rj_iret dX6_leastCost_21 rfl (Nat.le_of_ble_eq_true rfl) (Nat.le_of_ble_eq_true rfl) ⟨(by unfold fX6_leastCost; rw [if_neg h1]; try rfl), rfl, rfl⟩
theorem hSX6_setAt : yX6_setAt.cls ≠ "java/lang/invoke/MethodHandle" ∧ yX6_setAt.cls ≠ "java/lang/invoke/VarHandle" ∧ (parseMethodDescriptor yX6_setAt.desc).map (fun d => d.parameters.length) = some 1 := by decide +kernel
theorem hVX6_setAt : yX6_setAt.cls = RX6 ∧ yX6_setAt.cls ≠ "java/lang/invoke/MethodHandle" ∧ yX6_setAt.cls ≠ "java/lang/invoke/VarHandle" ∧ (parseMethodDescriptor yX6_setAt.desc).map (fun d => d.parameters.length) = some 1 := by decide +kernel
def bX6_setAt_4 (μ : rj_M) (a0 : Int32) (j4 : Nat) (s4 : Int32) : Int32 ⊕ (Nat × Int32) := (if a0 < nI j4 then .inr (j4, s4) else .inl (fX6_bestAt μ (nI j4) s4))
set_option maxHeartbeats 4000000 in
set_option maxRecDepth 100000 in
theorem lX6_setAt_4 {g : rj_G} {ω : rj_W} (hω : rj_ok ω) (μ : rj_M) (a0 : Int32)     {F : rj_F} : ∀ (r j : Nat) (s : Int32), j + r = 24 → (rj_R g RX6 cX6_setAt 4 (some .int) wsX6_setAt [] (rj_rm 3 0) F 0 ω μ [(0, .ref (ω.2.2 30)), (1, .int a0), (2, .int ((rj_br (bX6_setAt_4 μ a0) r j s).2)), (3, .int (nI (rj_br (bX6_setAt_4 μ a0) r j s).1))] 28 []) → rj_R g RX6 cX6_setAt 4 (some .int) wsX6_setAt [] (rj_rm 3 0) F 0 ω μ [(0, .ref (ω.2.2 30)), (1, .int a0), (2, .int s), (3, .int (nI j))] 4 [] := by
  intro r
  induction r with
  | zero =>
    intro j s hj K
    have e0 : j = 24 := by omega
    have hge : 24 ≤ nI j := by
      rw [e0]
      exact Int32.le_refl _
    refine rj_iload_n 3 dX6_setAt_4 rfl rfl ?_
    refine rj_bipush (v := 24) dX6_setAt_5 rfl (by decide) ?_
    refine rj_icmp_ge dX6_setAt_7 rfl rfl (fun h3 => ?_) (fun h3 => ?_)
    · rw [rj_br_0] at K
      exact K
    · exact absurd hge h3
  | succ r ih =>
    intro j4 s4 hj K
    have hl4 : j4 < 24 := by omega
    have hg4 : ¬ 24 ≤ nI j4 := nI_ge hl4 (rj_bl rfl)
    refine rj_iload_n 3 dX6_setAt_4 rfl rfl ?_
    refine rj_bipush (v := 24) dX6_setAt_5 rfl (by decide) ?_
    refine rj_icmp_ge dX6_setAt_7 rfl rfl (fun h1 => ?_) (fun h1 => ?_)
    · exact absurd h1 hg4
    · refine rj_iload_n 3 dX6_setAt_10 rfl rfl ?_
      refine rj_iload_n 1 dX6_setAt_11 rfl rfl ?_
      refine rj_icmp_gt dX6_setAt_12 rfl rfl (fun h2 => ?_) (fun h2 => ?_)
      · have e : bX6_setAt_4 μ a0 j4 s4 = .inr (j4, s4) := by unfold bX6_setAt_4; rw [if_pos h2]; try rfl
        exact rj_sub (l' := [(0, .ref (ω.2.2 30)), (1, .int a0), (2, .int s4), (3, .int (nI j4))]) [0, 1, 2, 3] rfl (by rw [rj_br_r e] at K; exact K)
      · refine rj_aload_n 0 dX6_setAt_15 rfl rfl ?_
        refine rj_iload_n 3 dX6_setAt_16 rfl rfl ?_
        refine rj_iload_n 2 dX6_setAt_17 rfl rfl ?_
        refine rj_cV (rest := []) (sX6_bestAt (g := g) (ω := ω) hω μ (nI j4) s4  ) gX6_setAt_X6_bestAt (rj_lt hω (k := 30) rfl) (rj_sh hω ly_30) rfl rfl hVX6_bestAt ⟨Nat.le_of_ble_eq_true rfl, Nat.le_of_ble_eq_true rfl⟩ dX6_setAt_18 rfl rfl rfl (Nat.le_of_ble_eq_true rfl) rfl (Nat.le_of_ble_eq_true rfl) rfl ?_
        refine rj_istore_n (l' := [(2, .int (fX6_bestAt μ (nI j4) s4)), (0, .ref (ω.2.2 30)), (1, .int a0), (3, .int (nI j4))]) dX6_setAt_21 rfl (rj_bl rfl) rfl ?_
        refine rj_iinc (v := nI (j4 + 1)) (l' := [(3, .int (nI (j4 + 1))), (2, .int (fX6_bestAt μ (nI j4) s4)), (0, .ref (ω.2.2 30)), (1, .int a0)]) 3 dX6_setAt_22 rfl rfl (nI_succ j4).symm (rj_bl rfl) rfl ?_
        refine rj_goto dX6_setAt_25 rfl ?_
        have e : bX6_setAt_4 μ a0 j4 s4 = .inl (fX6_bestAt μ (nI j4) s4) := by unfold bX6_setAt_4; rw [if_neg h2]; try rfl
        exact rj_sub (l' := [(0, .ref (ω.2.2 30)), (1, .int a0), (2, .int (fX6_bestAt μ (nI j4) s4)), (3, .int (nI (j4 + 1)))]) [2, 3, 1, 0] rfl (ih (j4 + 1) (fX6_bestAt μ (nI j4) s4) (by omega) (by rw [rj_br_l e] at K; exact K))
def fX6_setAt (μ : rj_M) (a0 : Int32) : Int32 := (rj_br (bX6_setAt_4 μ a0) 24 0 0).2
set_option maxHeartbeats 4000000 in
set_option maxRecDepth 100000 in
theorem sX6_setAt {g : rj_G} {ω : rj_W} (hω : rj_ok ω) (μ : rj_M) (a0 : Int32)   : rj_Sp g yX6_setAt wsX6_setAt (rj_rm 3 0) [.ref (ω.2.2 30), .int a0] ω μ (rj_D (.inl (some (.int (fX6_setAt μ a0)))) ω μ) := by
  refine rj_of' (cc := cX6_setAt) (nL := 4) (ret := (some .int)) (own := RX6) (l0 := [(0, .ref (ω.2.2 30)), (1, .int a0)]) rfl (by decide +kernel) rfl (Nat.le_of_ble_eq_true rfl) rfl ?_
  refine rj_iconst (v := 0) dX6_setAt_0 rfl (by decide) ?_
  refine rj_istore_n (l' := [(2, .int 0), (0, .ref (ω.2.2 30)), (1, .int a0)]) dX6_setAt_1 rfl (rj_bl rfl) rfl ?_
  refine rj_iconst (v := 0) dX6_setAt_2 rfl (by decide) ?_
  refine rj_istore_n (l' := [(3, .int 0), (2, .int 0), (0, .ref (ω.2.2 30)), (1, .int a0)]) dX6_setAt_3 rfl (rj_bl rfl) rfl ?_
  refine rj_sub (l' := [(0, .ref (ω.2.2 30)), (1, .int a0), (2, .int 0), (3, .int (nI 0))]) [2, 3, 1, 0] rfl ?_
  refine lX6_setAt_4 hω μ a0     24 0 0 rfl ?_
  refine rj_iload_n 2 dX6_setAt_28 rfl rfl ?_
  exact rj_iret dX6_setAt_29 rfl (Nat.le_of_ble_eq_true rfl) (Nat.le_of_ble_eq_true rfl) ⟨(by unfold fX6_setAt; rfl), rfl, rfl⟩
