theorem hSX11_replace : yX11_replace.cls ≠ "java/lang/invoke/MethodHandle" ∧ yX11_replace.cls ≠ "java/lang/invoke/VarHandle" ∧ (parseMethodDescriptor yX11_replace.desc).map (fun d => d.parameters.length) = some 3 := by decide +kernel
theorem hVX11_replace : yX11_replace.cls = RX11 ∧ yX11_replace.cls ≠ "java/lang/invoke/MethodHandle" ∧ yX11_replace.cls ≠ "java/lang/invoke/VarHandle" ∧ (parseMethodDescriptor yX11_replace.desc).map (fun d => d.parameters.length) = some 3 := by decide +kernel
def fX11_replace (μ : rj_M) (k : Nat) (n : Nat) (a1 : Int32) (a2 : Int32) : Int32 := (if a1 < 0 then (-1) else (if a1 < nI n then (μ.1 k a1.toNatClampNeg) else (-1)))
def mX11_replace (μ : rj_M) (k : Nat) (n : Nat) (a1 : Int32) (a2 : Int32) : rj_M := (if a1 < 0 then μ else (if a1 < nI n then (rj_pi μ k a1.toNatClampNeg a2) else μ))
set_option maxHeartbeats 4000000 in
set_option maxRecDepth 100000 in
theorem sX11_replace {g : rj_G} {ω : rj_W} (μ : rj_M) (k : Nat) (n : Nat) (a1 : Int32) (a2 : Int32) (hk_k : k < ω.1) (hs_k : ω.2.1 k = .inl (0, n)) (hn_n : n < 2 ^ 31) : rj_Sp g yX11_replace wsX11_replace (rj_rm 0 0) [.ref (ω.2.2 k), .int a1, .int a2] ω μ (rj_D (.inl (some (.int (fX11_replace μ k n a1 a2)))) ω (mX11_replace μ k n a1 a2)) := by
  refine rj_of' (cc := cX11_replace) (nL := 4) (ret := (some .int)) (own := RX11) (l0 := [(0, .ref (ω.2.2 k)), (1, .int a1), (2, .int a2)]) rfl (by decide +kernel) rfl (Nat.le_of_ble_eq_true rfl) rfl ?_
  refine rj_iload_n 1 dX11_replace_0 rfl rfl ?_
  refine rj_if_lt dX11_replace_1 rfl rfl (fun h1 => ?_) (fun h1 => ?_)
  · refine rj_iconst (v := (-1)) dX11_replace_10 rfl (by decide) ?_
    exact rj_iret dX11_replace_11 rfl (Nat.zero_le _) (Nat.zero_le _) ⟨(by unfold fX11_replace; rw [if_pos h1]; try rfl), rfl, (by unfold mX11_replace; rw [if_pos h1]; try rfl)⟩
  · refine rj_iload_n 1 dX11_replace_4 rfl rfl ?_
    refine rj_aload_n 0 dX11_replace_5 rfl rfl ?_
    refine rj_alen (v := nI n) dX11_replace_6 rfl hk_k hs_k rfl rfl ?_
    refine rj_icmp_lt dX11_replace_7 rfl rfl (fun h2 => ?_) (fun h2 => ?_)
    · refine rj_aload_n 0 dX11_replace_12 rfl rfl ?_
      refine rj_iload_n 1 dX11_replace_13 rfl rfl ?_
      refine rj_iald dX11_replace_14 rfl hk_k hs_k (rj_in h1 (Int32.not_le.mpr h2) (nI_toInt hn_n)) ?_
      refine rj_istore_n (l' := [(3, .int (μ.1 k a1.toNatClampNeg)), (0, .ref (ω.2.2 k)), (1, .int a1), (2, .int a2)]) dX11_replace_15 rfl (rj_bl rfl) rfl ?_
      refine rj_aload_n 1 dX11_replace_16 rfl rfl ?_
      refine rj_iload_n 2 dX11_replace_17 rfl rfl ?_
      refine rj_iload_n 3 dX11_replace_18 rfl rfl ?_
      refine rj_iast dX11_replace_19 rfl hk_k hs_k (rj_in h1 (Int32.not_le.mpr h2) (nI_toInt hn_n)) ?_
      refine rj_iload_n 0 dX11_replace_20 rfl rfl ?_
      exact rj_iret dX11_replace_21 rfl (Nat.zero_le _) (Nat.zero_le _) ⟨(by unfold fX11_replace; rw [if_neg h1]; rw [if_pos h2]; try rfl), rfl, (by unfold mX11_replace; rw [if_neg h1]; rw [if_pos h2]; try rfl)⟩
    · refine rj_iconst (v := (-1)) dX11_replace_10 rfl (by decide) ?_
      exact rj_iret dX11_replace_11 rfl (Nat.zero_le _) (Nat.zero_le _) ⟨(by unfold fX11_replace; rw [if_neg h1]; rw [if_neg h2]; try rfl), rfl, (by unfold mX11_replace; rw [if_neg h1]; rw [if_neg h2]; try rfl)⟩
theorem hSX11_fillRow : yX11_fillRow.cls ≠ "java/lang/invoke/MethodHandle" ∧ yX11_fillRow.cls ≠ "java/lang/invoke/VarHandle" ∧ (parseMethodDescriptor yX11_fillRow.desc).map (fun d => d.parameters.length) = some 2 := by decide +kernel
theorem hVX11_fillRow : yX11_fillRow.cls = RX11 ∧ yX11_fillRow.cls ≠ "java/lang/invoke/MethodHandle" ∧ yX11_fillRow.cls ≠ "java/lang/invoke/VarHandle" ∧ (parseMethodDescriptor yX11_fillRow.desc).map (fun d => d.parameters.length) = some 2 := by decide +kernel
def bX11_fillRow_2 (μ : rj_M) (k : Nat) (n : Nat) (a1 : Int32) (j2 : Nat) (s2 : rj_M) : rj_M := (rj_pi s2 k (nI j2).toNatClampNeg a1)
set_option maxHeartbeats 4000000 in
set_option maxRecDepth 100000 in
theorem lX11_fillRow_2 {g : rj_G} {ω : rj_W} (μ : rj_M) (k : Nat) (n : Nat) (a1 : Int32) (hk_k : k < ω.1) (hs_k : ω.2.1 k = .inl (0, n)) (hn_n : n < 2 ^ 31)  {F : rj_F} : ∀ (r j : Nat) (s : rj_M), j + r = n → (rj_R g RX11 cX11_fillRow 3 none wsX11_fillRow [] (rj_rm 0 0) F 0 ω (rj_fo (bX11_fillRow_2 μ k n a1) r j s) [(0, .ref (ω.2.2 k)), (1, .int a1), (2, .int (nI n))] 18 []) → rj_R g RX11 cX11_fillRow 3 none wsX11_fillRow [] (rj_rm 0 0) F 0 ω s [(0, .ref (ω.2.2 k)), (1, .int a1), (2, .int (nI j))] 2 [] := by
  intro r
  induction r with
  | zero =>
    intro j s hj K
    have e0 : j = n := by omega
    have hge : nI n ≤ nI j := by
      rw [e0]
      exact Int32.le_refl _
    refine rj_iload_n 2 dX11_fillRow_2 rfl rfl ?_
    refine rj_aload_n 0 dX11_fillRow_3 rfl rfl ?_
    refine rj_alen (v := nI n) dX11_fillRow_4 rfl hk_k hs_k rfl rfl ?_
    refine rj_icmp_ge dX11_fillRow_5 rfl rfl (fun h2 => ?_) (fun h2 => ?_)
    · have e1 : nI j = nI n := by rw [e0]
      rw [e1]
      exact K
    · exact absurd hge h2
  | succ r ih =>
    intro j2 s2 hj K
    have hl2 : j2 < n := by omega
    have hg2 : ¬ nI n ≤ nI j2 := nI_ge hl2 hn_n
    refine rj_iload_n 2 dX11_fillRow_2 rfl rfl ?_
    refine rj_aload_n 0 dX11_fillRow_3 rfl rfl ?_
    refine rj_alen (v := nI n) dX11_fillRow_4 rfl hk_k hs_k rfl rfl ?_
    refine rj_icmp_ge dX11_fillRow_5 rfl rfl (fun h1 => ?_) (fun h1 => ?_)
    · exact absurd h1 hg2
    · refine rj_aload_n 0 dX11_fillRow_8 rfl rfl ?_
      refine rj_iload_n 2 dX11_fillRow_9 rfl rfl ?_
      refine rj_iload_n 1 dX11_fillRow_10 rfl rfl ?_
      refine rj_iast dX11_fillRow_11 rfl hk_k hs_k (vp_in_nI hl2 hn_n) ?_
      refine rj_iinc (v := nI (j2 + 1)) (l' := [(2, .int (nI (j2 + 1))), (0, .ref (ω.2.2 k)), (1, .int a1)]) 2 dX11_fillRow_12 rfl rfl (nI_succ j2).symm (rj_bl rfl) rfl ?_
      refine rj_goto dX11_fillRow_15 rfl ?_
      have e : bX11_fillRow_2 μ k n a1 j2 s2 = (rj_pi s2 k (nI j2).toNatClampNeg a1) := by unfold bX11_fillRow_2; rfl
      exact rj_sub (l' := [(0, .ref (ω.2.2 k)), (1, .int a1), (2, .int (nI (j2 + 1)))]) [1, 2, 0] rfl (ih (j2 + 1) (rj_pi s2 k (nI j2).toNatClampNeg a1) (by omega) (by rw [rj_fo_s, e] at K; exact K))
def mX11_fillRow (μ : rj_M) (k : Nat) (n : Nat) (a1 : Int32) : rj_M := (rj_fo (bX11_fillRow_2 μ k n a1) n 0 μ)
set_option maxHeartbeats 4000000 in
set_option maxRecDepth 100000 in
theorem sX11_fillRow {g : rj_G} {ω : rj_W} (μ : rj_M) (k : Nat) (n : Nat) (a1 : Int32) (hk_k : k < ω.1) (hs_k : ω.2.1 k = .inl (0, n)) (hn_n : n < 2 ^ 31) : rj_Sp g yX11_fillRow wsX11_fillRow (rj_rm 0 0) [.ref (ω.2.2 k), .int a1] ω μ (rj_D (.inl none) ω (mX11_fillRow μ k n a1)) := by
  refine rj_of' (cc := cX11_fillRow) (nL := 3) (ret := none) (own := RX11) (l0 := [(0, .ref (ω.2.2 k)), (1, .int a1)]) rfl (by decide +kernel) rfl (Nat.le_of_ble_eq_true rfl) rfl ?_
  refine rj_iconst (v := 0) dX11_fillRow_0 rfl (by decide) ?_
  refine rj_istore_n (l' := [(2, .int 0), (0, .ref (ω.2.2 k)), (1, .int a1)]) dX11_fillRow_1 rfl (rj_bl rfl) rfl ?_
  refine rj_sub (l' := [(0, .ref (ω.2.2 k)), (1, .int a1), (2, .int (nI 0))]) [1, 2, 0] rfl ?_
  refine lX11_fillRow_2 μ k n a1 hk_k hs_k hn_n  n 0 μ (by omega) ?_
  exact rj_vret dX11_fillRow_18 rfl (Nat.zero_le _) (Nat.zero_le _) ⟨rfl, rfl, (by unfold mX11_fillRow; rfl)⟩
theorem hSX11_sumOf : yX11_sumOf.cls ≠ "java/lang/invoke/MethodHandle" ∧ yX11_sumOf.cls ≠ "java/lang/invoke/VarHandle" ∧ (parseMethodDescriptor yX11_sumOf.desc).map (fun d => d.parameters.length) = some 1 := by decide +kernel
theorem hVX11_sumOf : yX11_sumOf.cls = RX11 ∧ yX11_sumOf.cls ≠ "java/lang/invoke/MethodHandle" ∧ yX11_sumOf.cls ≠ "java/lang/invoke/VarHandle" ∧ (parseMethodDescriptor yX11_sumOf.desc).map (fun d => d.parameters.length) = some 1 := by decide +kernel
def bX11_sumOf_4 (μ : rj_M) (k : Nat) (n : Nat) (j4 : Nat) (s4 : Int32) : Int32 := (s4 + (μ.1 k (nI j4).toNatClampNeg))
set_option maxHeartbeats 4000000 in
set_option maxRecDepth 100000 in
theorem lX11_sumOf_4 {g : rj_G} {ω : rj_W} (μ : rj_M) (k : Nat) (n : Nat) (hk_k : k < ω.1) (hs_k : ω.2.1 k = .inl (0, n)) (hn_n : n < 2 ^ 31)  {F : rj_F} : ∀ (r j : Nat) (s : Int32), j + r = n → (rj_R g RX11 cX11_sumOf 3 (some .int) wsX11_sumOf [] (rj_rm 0 0) F 0 ω μ [(0, .ref (ω.2.2 k)), (1, .int (rj_fo (bX11_sumOf_4 μ k n) r j s)), (2, .int (nI n))] 22 []) → rj_R g RX11 cX11_sumOf 3 (some .int) wsX11_sumOf [] (rj_rm 0 0) F 0 ω μ [(0, .ref (ω.2.2 k)), (1, .int s), (2, .int (nI j))] 4 [] := by
  intro r
  induction r with
  | zero =>
    intro j s hj K
    have e0 : j = n := by omega
    have hge : nI n ≤ nI j := by
      rw [e0]
      exact Int32.le_refl _
    refine rj_iload_n 2 dX11_sumOf_4 rfl rfl ?_
    refine rj_aload_n 0 dX11_sumOf_5 rfl rfl ?_
    refine rj_alen (v := nI n) dX11_sumOf_6 rfl hk_k hs_k rfl rfl ?_
    refine rj_icmp_ge dX11_sumOf_7 rfl rfl (fun h2 => ?_) (fun h2 => ?_)
    · have e1 : nI j = nI n := by rw [e0]
      rw [e1]
      exact K
    · exact absurd hge h2
  | succ r ih =>
    intro j4 s4 hj K
    have hl4 : j4 < n := by omega
    have hg4 : ¬ nI n ≤ nI j4 := nI_ge hl4 hn_n
    refine rj_iload_n 2 dX11_sumOf_4 rfl rfl ?_
    refine rj_aload_n 0 dX11_sumOf_5 rfl rfl ?_
    refine rj_alen (v := nI n) dX11_sumOf_6 rfl hk_k hs_k rfl rfl ?_
    refine rj_icmp_ge dX11_sumOf_7 rfl rfl (fun h1 => ?_) (fun h1 => ?_)
    · exact absurd h1 hg4
    · refine rj_iload_n 1 dX11_sumOf_10 rfl rfl ?_
      refine rj_aload_n 0 dX11_sumOf_11 rfl rfl ?_
      refine rj_iload_n 2 dX11_sumOf_12 rfl rfl ?_
      refine rj_iald dX11_sumOf_13 rfl hk_k hs_k (vp_in_nI hl4 hn_n) ?_
      refine rj_iadd dX11_sumOf_14 rfl ?_
      refine rj_istore_n (l' := [(1, .int (s4 + (μ.1 k (nI j4).toNatClampNeg))), (0, .ref (ω.2.2 k)), (2, .int (nI j4))]) dX11_sumOf_15 rfl (rj_bl rfl) rfl ?_
      refine rj_iinc (v := nI (j4 + 1)) (l' := [(2, .int (nI (j4 + 1))), (1, .int (s4 + (μ.1 k (nI j4).toNatClampNeg))), (0, .ref (ω.2.2 k))]) 2 dX11_sumOf_16 rfl rfl (nI_succ j4).symm (rj_bl rfl) rfl ?_
      refine rj_goto dX11_sumOf_19 rfl ?_
      have e : bX11_sumOf_4 μ k n j4 s4 = (s4 + (μ.1 k (nI j4).toNatClampNeg)) := by unfold bX11_sumOf_4; rfl
      exact rj_sub (l' := [(0, .ref (ω.2.2 k)), (1, .int (s4 + (μ.1 k (nI j4).toNatClampNeg))), (2, .int (nI (j4 + 1)))]) [2, 1, 0] rfl (ih (j4 + 1) (s4 + (μ.1 k (nI j4).toNatClampNeg)) (by omega) (by rw [rj_fo_s, e] at K; exact K))
def fX11_sumOf (μ : rj_M) (k : Nat) (n : Nat) : Int32 := (rj_fo (bX11_sumOf_4 μ k n) n 0 0)
set_option maxHeartbeats 4000000 in
set_option maxRecDepth 100000 in
theorem sX11_sumOf {g : rj_G} {ω : rj_W} (μ : rj_M) (k : Nat) (n : Nat) (hk_k : k < ω.1) (hs_k : ω.2.1 k = .inl (0, n)) (hn_n : n < 2 ^ 31) : rj_Sp g yX11_sumOf wsX11_sumOf (rj_rm 0 0) [.ref (ω.2.2 k)] ω μ (rj_D (.inl (some (.int (fX11_sumOf μ k n)))) ω μ) := by
  refine rj_of' (cc := cX11_sumOf) (nL := 3) (ret := (some .int)) (own := RX11) (l0 := [(0, .ref (ω.2.2 k))]) rfl (by decide +kernel) rfl (Nat.le_of_ble_eq_true rfl) rfl ?_
  refine rj_iconst (v := 0) dX11_sumOf_0 rfl (by decide) ?_
  refine rj_istore_n (l' := [(1, .int 0), (0, .ref (ω.2.2 k))]) dX11_sumOf_1 rfl (rj_bl rfl) rfl ?_
  refine rj_iconst (v := 0) dX11_sumOf_2 rfl (by decide) ?_
  refine rj_istore_n (l' := [(2, .int 0), (1, .int 0), (0, .ref (ω.2.2 k))]) dX11_sumOf_3 rfl (rj_bl rfl) rfl ?_
  refine rj_sub (l' := [(0, .ref (ω.2.2 k)), (1, .int 0), (2, .int (nI 0))]) [2, 1, 0] rfl ?_
  refine lX11_sumOf_4 μ k n hk_k hs_k hn_n  n 0 0 (by omega) ?_
  refine rj_iload_n 1 dX11_sumOf_22 rfl rfl ?_
  exact rj_iret dX11_sumOf_23 rfl (Nat.zero_le _) (Nat.zero_le _) ⟨(by unfold fX11_sumOf; rfl), rfl, rfl⟩
