theorem hSX11_replace : yX11_replace.cls ≠ "java/lang/invoke/MethodHandle" ∧ yX11_replace.cls ≠ "java/lang/invoke/VarHandle" ∧ (parseMethodDescriptor yX11_replace.desc).map (fun d => d.parameters.length) = some 3 := by decide +kernel
theorem hVX11_replace : yX11_replace.cls = RX11 ∧ yX11_replace.cls ≠ "java/lang/invoke/MethodHandle" ∧ yX11_replace.cls ≠ "java/lang/invoke/VarHandle" ∧ (parseMethodDescriptor yX11_replace.desc).map (fun d => d.parameters.length) = some 3 := by decide +kernel
def fX11_replace (μ : rj_M) (k : Nat) (n : Nat) (a1 : Int32) (a2 : Int32) : Int32 := (if a1 < 0 then (-1) else (if a1 < nI n then (μ.1 k a1.toNatClampNeg) else (-1)))
def mX11_replace (μ : rj_M) (k : Nat) (n : Nat) (a1 : Int32) (a2 : Int32) : rj_M := (if a1 < 0 then μ else (if a1 < nI n then (rj_pi μ k a1.toNatClampNeg a2) else μ))
set_option maxHeartbeats 4000000 in
set_option maxRecDepth 100000 in
theorem sX11_replace {g : rj_G} {ω : rj_W} (μ : rj_M) (k : Nat) (n : Nat) (a1 : Int32) (a2 : Int32) (hk_k : k < ω.1) (hs_k : ω.2.1 k = .inl (0, n)) (hn_n : n < 2 ^ 31)  : rj_Sp g yX11_replace wsX11_replace (rj_rm 0 0) [.ref (ω.2.2 k), .int a1, .int a2] ω μ (rj_D (.inl (some (.int (fX11_replace μ k n a1 a2)))) ω (mX11_replace μ k n a1 a2)) := by
  refine rj_of' (cc := cX11_replace) (nL := 4) (ret := (some .int)) (own := RX11) (l0 := [(0, .ref (ω.2.2 k)), (1, .int a1), (2, .int a2)]) rfl (by decide +kernel) rfl (Nat.le_of_ble_eq_true rfl) rfl ?_
  refine rj_iload_n 1 dX11_replace_0 rfl rfl ?_
  refine rj_if_lt dX11_replace_1 rfl rfl (fun h1 => ?_) (fun h1 => ?_)
  · refine rj_iconst (v := (-1)) dX11_replace_10 rfl (by decide) ?_
    exact rj_iret dX11_replace_11 rfl (Nat.le_of_ble_eq_true rfl) (Nat.le_of_ble_eq_true rfl) ⟨(by unfold fX11_replace; rw [if_pos h1]; try rfl), rfl, (by unfold mX11_replace; rw [if_pos h1]; try rfl)⟩
  · refine rj_iload_n 1 dX11_replace_4 rfl rfl ?_
    refine rj_aload_n 0 dX11_replace_5 rfl rfl ?_
    refine rj_alen (v := nI n) dX11_replace_6 rfl hk_k hs_k rfl rfl ?_
    refine rj_icmp_lt dX11_replace_7 rfl rfl (fun h2 => ?_) (fun h2 => ?_)
    · refine rj_aload_n 0 dX11_replace_12 rfl rfl ?_
      refine rj_iload_n 1 dX11_replace_13 rfl rfl ?_
      refine rj_iald dX11_replace_14 rfl hk_k hs_k (rj_in h1 (Int32.not_le.mpr h2) (nI_toInt hn_n)) ?_
      refine rj_istore_n (l' := [(3, .int (μ.1 k a1.toNatClampNeg)), (0, .ref (ω.2.2 k)), (1, .int a1), (2, .int a2)]) dX11_replace_15 rfl (rj_bl rfl) rfl ?_
      refine rj_aload_n 1 dX11_replace_16 rfl rfl ?_
      refine rj_iload_n 2 dX11_replace_17 rfl rfl ?_
      refine rj_iload_n 3 dX11_replace_18 rfl rfl ?_
      refine rj_iast dX11_replace_19 rfl hk_k hs_k (rj_in h1 (Int32.not_le.mpr h2) (nI_toInt hn_n)) ?_
      refine rj_iload_n 0 dX11_replace_20 rfl rfl ?_
      exact rj_iret dX11_replace_21 rfl (Nat.le_of_ble_eq_true rfl) (Nat.le_of_ble_eq_true rfl) ⟨(by unfold fX11_replace; rw [if_neg h1]; rw [if_pos h2]; try rfl), rfl, (by unfold mX11_replace; rw [if_neg h1]; rw [if_pos h2]; try rfl)⟩
    · refine rj_iconst (v := (-1)) dX11_replace_10 rfl (by decide) ?_
      exact rj_iret dX11_replace_11 rfl (Nat.le_of_ble_eq_true rfl) (Nat.le_of_ble_eq_true rfl) ⟨(by unfold fX11_replace; rw [if_neg h1]; rw [if_neg h2]; try rfl), rfl, (by unfold mX11_replace; rw [if_neg h1]; rw [if_neg h2]; try rfl)⟩
theorem hSX11_fillRow : yX11_fillRow.cls ≠ "java/lang/invoke/MethodHandle" ∧ yX11_fillRow.cls ≠ "java/lang/invoke/VarHandle" ∧ (parseMethodDescriptor yX11_fillRow.desc).map (fun d => d.parameters.length) = some 2 := by decide +kernel
theorem hVX11_fillRow : yX11_fillRow.cls = RX11 ∧ yX11_fillRow.cls ≠ "java/lang/invoke/MethodHandle" ∧ yX11_fillRow.cls ≠ "java/lang/invoke/VarHandle" ∧ (parseMethodDescriptor yX11_fillRow.desc).map (fun d => d.parameters.length) = some 2 := by decide +kernel
def bX11_fillRow_2 (μ : rj_M) (k : Nat) (n : Nat) (a1 : Int32) (j2 : Nat) (s2 : rj_M) : rj_M := (rj_pi s2 k (nI j2).toNatClampNeg a1)
set_option maxHeartbeats 4000000 in
set_option maxRecDepth 100000 in
theorem lX11_fillRow_2 {g : rj_G} {ω : rj_W} (μ : rj_M) (k : Nat) (n : Nat) (a1 : Int32) (hk_k : k < ω.1) (hs_k : ω.2.1 k = .inl (0, n)) (hn_n : n < 2 ^ 31)    {F : rj_F} : ∀ (r j : Nat) (s : rj_M), j + r = n → (rj_R g RX11 cX11_fillRow 3 none wsX11_fillRow [] (rj_rm 0 0) F 0 ω (rj_fo (bX11_fillRow_2 μ k n a1) r j s) [(0, .ref (ω.2.2 k)), (1, .int a1), (2, .int (nI n))] 18 []) → rj_R g RX11 cX11_fillRow 3 none wsX11_fillRow [] (rj_rm 0 0) F 0 ω s [(0, .ref (ω.2.2 k)), (1, .int a1), (2, .int (nI j))] 2 [] := by
  intro r
  induction r with
  | zero =>
    intro j s hj K
    have e0 : j = n := by omega
    have hge : nI n ≤ nI j := by
      rw [e0]
      exact Int32.le_refl _
    refine rj_iload_n 2 dX11_fillRow_2 rfl rfl ?_
    refine rj_aload_n 0 dX11_fillRow_3 rfl rfl ?_
    refine rj_alen (v := nI n) dX11_fillRow_4 rfl hk_k hs_k rfl rfl ?_
    refine rj_icmp_ge dX11_fillRow_5 rfl rfl (fun h2 => ?_) (fun h2 => ?_)
    · have e1 : nI j = nI n := by rw [e0]
      rw [e1]
      exact K
    · exact absurd hge h2
  | succ r ih =>
    intro j2 s2 hj K
    have hl2 : j2 < n := by omega
    have hg2 : ¬ nI n ≤ nI j2 := nI_ge hl2 hn_n
    refine rj_iload_n 2 dX11_fillRow_2 rfl rfl ?_
    refine rj_aload_n 0 dX11_fillRow_3 rfl rfl ?_
    refine rj_alen (v := nI n) dX11_fillRow_4 rfl hk_k hs_k rfl rfl ?_
    refine rj_icmp_ge dX11_fillRow_5 rfl rfl (fun h1 => ?_) (fun h1 => ?_)
    · exact absurd h1 hg2
    · refine rj_aload_n 0 dX11_fillRow_8 rfl rfl ?_
      refine rj_iload_n 2 dX11_fillRow_9 rfl rfl ?_
      refine rj_iload_n 1 dX11_fillRow_10 rfl rfl ?_
      refine rj_iast dX11_fillRow_11 rfl hk_k hs_k (vp_in_nI hl2 hn_n) ?_
      refine rj_iinc (v := nI (j2 + 1)) (l' := [(2, .int (nI (j2 + 1))), (0, .ref (ω.2.2 k)), (1, .int a1)]) 2 dX11_fillRow_12 rfl rfl (nI_succ j2).symm (rj_bl rfl) rfl ?_
      refine rj_goto dX11_fillRow_15 rfl ?_
      have e : bX11_fillRow_2 μ k n a1 j2 s2 = (rj_pi s2 k (nI j2).toNatClampNeg a1) := by unfold bX11_fillRow_2; rfl
      exact rj_sub (l' := [(0, .ref (ω.2.2 k)), (1, .int a1), (2, .int (nI (j2 + 1)))]) [1, 2, 0] rfl (ih (j2 + 1) (rj_pi s2 k (nI j2).toNatClampNeg a1) (by omega) (by rw [rj_fo_s, e] at K; exact K))
def mX11_fillRow (μ : rj_M) (k : Nat) (n : Nat) (a1 : Int32) : rj_M := (rj_fo (bX11_fillRow_2 μ k n a1) n 0 μ)
set_option maxHeartbeats 4000000 in
set_option maxRecDepth 100000 in
theorem sX11_fillRow {g : rj_G} {ω : rj_W} (μ : rj_M) (k : Nat) (n : Nat) (a1 : Int32) (hk_k : k < ω.1) (hs_k : ω.2.1 k = .inl (0, n)) (hn_n : n < 2 ^ 31)  : rj_Sp g yX11_fillRow wsX11_fillRow (rj_rm 0 0) [.ref (ω.2.2 k), .int a1] ω μ (rj_D (.inl none) ω (mX11_fillRow μ k n a1)) := by
  refine rj_of' (cc := cX11_fillRow) (nL := 3) (ret := none) (own := RX11) (l0 := [(0, .ref (ω.2.2 k)), (1, .int a1)]) rfl (by decide +kernel) rfl (Nat.le_of_ble_eq_true rfl) rfl ?_
  refine rj_iconst (v := 0) dX11_fillRow_0 rfl (by decide) ?_
  refine rj_istore_n (l' := [(2, .int 0), (0, .ref (ω.2.2 k)), (1, .int a1)]) dX11_fillRow_1 rfl (rj_bl rfl) rfl ?_
  refine rj_sub (l' := [(0, .ref (ω.2.2 k)), (1, .int a1), (2, .int (nI 0))]) [1, 2, 0] rfl ?_
  refine lX11_fillRow_2 μ k n a1 hk_k hs_k hn_n    n 0 μ (by omega) ?_
  exact rj_vret dX11_fillRow_18 rfl (Nat.le_of_ble_eq_true rfl) (Nat.le_of_ble_eq_true rfl) ⟨rfl, rfl, (by unfold mX11_fillRow; rfl)⟩
theorem hSX11_sumOf : yX11_sumOf.cls ≠ "java/lang/invoke/MethodHandle" ∧ yX11_sumOf.cls ≠ "java/lang/invoke/VarHandle" ∧ (parseMethodDescriptor yX11_sumOf.desc).map (fun d => d.parameters.length) = some 1 := by decide +kernel
theorem hVX11_sumOf : yX11_sumOf.cls = RX11 ∧ yX11_sumOf.cls ≠ "java/lang/invoke/MethodHandle" ∧ yX11_sumOf.cls ≠ "java/lang/invoke/VarHandle" ∧ (parseMethodDescriptor yX11_sumOf.desc).map (fun d => d.parameters.length) = some 1 := by decide +kernel
def bX11_sumOf_4 (μ : rj_M) (k : Nat) (n : Nat) (j4 : Nat) (s4 : Int32) : Int32 := (s4 + (μ.1 k (nI j4).toNatClampNeg))
set_option maxHeartbeats 4000000 in
set_option maxRecDepth 100000 in
theorem lX11_sumOf_4 {g : rj_G} {ω : rj_W} (μ : rj_M) (k : Nat) (n : Nat) (hk_k : k < ω.1) (hs_k : ω.2.1 k = .inl (0, n)) (hn_n : n < 2 ^ 31)    {F : rj_F} : ∀ (r j : Nat) (s : Int32), j + r = n → (rj_R g RX11 cX11_sumOf 3 (some .int) wsX11_sumOf [] (rj_rm 0 0) F 0 ω μ [(0, .ref (ω.2.2 k)), (1, .int (rj_fo (bX11_sumOf_4 μ k n) r j s)), (2, .int (nI n))] 22 []) → rj_R g RX11 cX11_sumOf 3 (some .int) wsX11_sumOf [] (rj_rm 0 0) F 0 ω μ [(0, .ref (ω.2.2 k)), (1, .int s), (2, .int (nI j))] 4 [] := by
  intro r
  induction r with
  | zero =>
    intro j s hj K
    have e0 : j = n := by omega
    have hge : nI n ≤ nI j := by
      rw [e0]
      exact Int32.le_refl _
    refine rj_iload_n 2 dX11_sumOf_4 rfl rfl ?_
    refine rj_aload_n 0 dX11_sumOf_5 rfl rfl ?_
    refine rj_alen (v := nI n) dX11_sumOf_6 rfl hk_k hs_k rfl rfl ?_
    refine rj_icmp_ge dX11_sumOf_7 rfl rfl (fun h2 => ?_) (fun h2 => ?_)
    · have e1 : nI j = nI n := by rw [e0]
      rw [e1]
      exact K
    · exact absurd hge h2
  | succ r ih =>
    intro j4 s4 hj K
    have hl4 : j4 < n := by omega
    have hg4 : ¬ nI n ≤ nI j4 := nI_ge hl4 hn_n
    refine rj_iload_n 2 dX11_sumOf_4 rfl rfl ?_
    refine rj_aload_n 0 dX11_sumOf_5 rfl rfl ?_
    refine rj_alen (v := nI n) dX11_sumOf_6 rfl hk_k hs_k rfl rfl ?_
    refine rj_icmp_ge dX11_sumOf_7 rfl rfl (fun h1 => ?_) (fun h1 => ?_)
    · exact absurd h1 hg4
    · refine rj_iload_n 1 dX11_sumOf_10 rfl rfl ?_
      refine rj_aload_n 0 dX11_sumOf_11 rfl rfl ?_
      refine rj_iload_n 2 dX11_sumOf_12 rfl rfl ?_
      refine rj_iald dX11_sumOf_13 rfl hk_k hs_k (vp_in_nI hl4 hn_n) ?_
      refine rj_iadd dX11_sumOf_14 rfl ?_
      refine rj_istore_n (l' := [(1, .int (s4 + (μ.1 k (nI j4).toNatClampNeg))), (0, .ref (ω.2.2 k)), (2, .int (nI j4))]) dX11_sumOf_15 rfl (rj_bl rfl) rfl ?_
      refine rj_iinc (v := nI (j4 + 1)) (l' := [(2, .int (nI (j4 + 1))), (1, .int (s4 + (μ.1 k (nI j4).toNatClampNeg))), (0, .ref (ω.2.2 k))]) 2 dX11_sumOf_16 rfl rfl (nI_succ j4).symm (rj_bl rfl) rfl ?_
      refine rj_goto dX11_sumOf_19 rfl ?_
      have e : bX11_sumOf_4 μ k n j4 s4 = (s4 + (μ.1 k (nI j4).toNatClampNeg)) := by unfold bX11_sumOf_4; rfl
      exact rj_sub (l' := [(0, .ref (ω.2.2 k)), (1, .int (s4 + (μ.1 k (nI j4).toNatClampNeg))), (2, .int (nI (j4 + 1)))]) [2, 1, 0] rfl (ih (j4 + 1) (s4 + (μ.1 k (nI j4).toNatClampNeg)) (by omega) (by rw [rj_fo_s, e] at K; exact K))
def fX11_sumOf (μ : rj_M) (k : Nat) (n : Nat) : Int32 := (rj_fo (bX11_sumOf_4 μ k n) n 0 0)
set_option maxHeartbeats 4000000 in
set_option maxRecDepth 100000 in
theorem sX11_sumOf {g : rj_G} {ω : rj_W} (μ : rj_M) (k : Nat) (n : Nat) (hk_k : k < ω.1) (hs_k : ω.2.1 k = .inl (0, n)) (hn_n : n < 2 ^ 31)  : rj_Sp g yX11_sumOf wsX11_sumOf (rj_rm 0 0) [.ref (ω.2.2 k)] ω μ (rj_D (.inl (some (.int (fX11_sumOf μ k n)))) ω μ) := by
  refine rj_of' (cc := cX11_sumOf) (nL := 3) (ret := (some .int)) (own := RX11) (l0 := [(0, .ref (ω.2.2 k))]) rfl (by decide +kernel) rfl (Nat.le_of_ble_eq_true rfl) rfl ?_
  refine rj_iconst (v := 0) dX11_sumOf_0 rfl (by decide) ?_
  refine rj_istore_n (l' := [(1, .int 0), (0, .ref (ω.2.2 k))]) dX11_sumOf_1 rfl (rj_bl rfl) rfl ?_
  refine rj_iconst (v := 0) dX11_sumOf_2 rfl (by decide) ?_
  refine rj_istore_n (l' := [(2, .int 0), (1, .int 0), (0, .ref (ω.2.2 k))]) dX11_sumOf_3 rfl (rj_bl rfl) rfl ?_
  refine rj_sub (l' := [(0, .ref (ω.2.2 k)), (1, .int 0), (2, .int (nI 0))]) [2, 1, 0] rfl ?_
  refine lX11_sumOf_4 μ k n hk_k hs_k hn_n    n 0 0 (by omega) ?_
  refine rj_iload_n 1 dX11_sumOf_22 rfl rfl ?_
  exact rj_iret dX11_sumOf_23 rfl (Nat.le_of_ble_eq_true rfl) (Nat.le_of_ble_eq_true rfl) ⟨(by unfold fX11_sumOf; rfl), rfl, rfl⟩
theorem hSX11_copyRow : yX11_copyRow.cls ≠ "java/lang/invoke/MethodHandle" ∧ yX11_copyRow.cls ≠ "java/lang/invoke/VarHandle" ∧ (parseMethodDescriptor yX11_copyRow.desc).map (fun d => d.parameters.length) = some 2 := by decide +kernel
theorem hVX11_copyRow : yX11_copyRow.cls = RX11 ∧ yX11_copyRow.cls ≠ "java/lang/invoke/MethodHandle" ∧ yX11_copyRow.cls ≠ "java/lang/invoke/VarHandle" ∧ (parseMethodDescriptor yX11_copyRow.desc).map (fun d => d.parameters.length) = some 2 := by decide +kernel
theorem jX11_copyRow_433_0 : Cond.methodLink RX11 433 Lib.Math.min.name ∈ wsX11_copyRow := by decide +kernel
theorem jX11_copyRow_433_1 : Cond.static Lib.Math.min.name ∈ wsX11_copyRow := by decide +kernel
theorem jX11_copyRow_433_2 : Cond.initialized "java/lang/Math" ∈ wsX11_copyRow := by decide +kernel
theorem jX11_copyRow_433_3 : Cond.code Lib.Math.min.name Lib.Math.min.code 2 (some .int) ∈ wsX11_copyRow := by decide +kernel
theorem jX11_copyRow_458_0 : Cond.methodLink RX11 458 arraycopyName ∈ wsX11_copyRow := by decide +kernel
theorem jX11_copyRow_458_1 : Cond.native arraycopyName ∈ wsX11_copyRow := by decide +kernel
theorem jX11_copyRow_458_2 : Cond.static arraycopyName ∈ wsX11_copyRow := by decide +kernel
theorem jX11_copyRow_458_3 : Cond.initialized "java/lang/System" ∈ wsX11_copyRow := by decide +kernel
def mX11_copyRow (μ : rj_M) (k : Nat) (n : Nat) (k2 : Nat) (n2 : Nat) : rj_M := (rj_ri μ k2 (va_cpy (μ.1 k) (μ.1 k2) 0 0 (min n n2)))
set_option maxHeartbeats 4000000 in
set_option maxRecDepth 100000 in
theorem sX11_copyRow {g : rj_G} {ω : rj_W} (μ : rj_M) (k : Nat) (n : Nat) (k2 : Nat) (n2 : Nat) (hk_k : k < ω.1) (hs_k : ω.2.1 k = .inl (0, n)) (hn_n : n < 2 ^ 31) (hk_k2 : k2 < ω.1) (hs_k2 : ω.2.1 k2 = .inl (0, n2)) (hn_n2 : n2 < 2 ^ 31)  : rj_Sp g yX11_copyRow wsX11_copyRow (rj_rm 1 0) [.ref (ω.2.2 k), .ref (ω.2.2 k2)] ω μ (rj_D (.inl none) ω (mX11_copyRow μ k n k2 n2)) := by
  refine rj_of' (cc := cX11_copyRow) (nL := 2) (ret := none) (own := RX11) (l0 := [(0, .ref (ω.2.2 k)), (1, .ref (ω.2.2 k2))]) rfl (by decide +kernel) rfl (Nat.le_of_ble_eq_true rfl) rfl ?_
  refine rj_aload_n 0 dX11_copyRow_0 rfl rfl ?_
  refine rj_iconst (v := 0) dX11_copyRow_1 rfl (by decide) ?_
  refine rj_aload_n 1 dX11_copyRow_2 rfl rfl ?_
  refine rj_iconst (v := 0) dX11_copyRow_3 rfl (by decide) ?_
  refine rj_aload_n 0 dX11_copyRow_4 rfl rfl ?_
  refine rj_alen (v := nI n) dX11_copyRow_5 rfl hk_k hs_k rfl rfl ?_
  refine rj_aload_n 1 dX11_copyRow_6 rfl rfl ?_
  refine rj_alen (v := nI n2) dX11_copyRow_7 rfl hk_k2 hs_k2 rfl rfl ?_
  refine rj_mmin dX11_copyRow_8 rfl jX11_copyRow_433_0 jX11_copyRow_433_1 jX11_copyRow_433_2 jX11_copyRow_433_3 (Nat.le_of_ble_eq_true rfl) (Nat.le_of_ble_eq_true rfl) (Nat.le_of_ble_eq_true rfl) (Nat.le_of_ble_eq_true rfl) ?_
  rw [show (if nI n2 < nI n then nI n2 else nI n) = nI (min n n2) from rj_minN hn_n hn_n2]
  refine rj_copyi (mm := (min n n2)) dX11_copyRow_11 rfl jX11_copyRow_458_0 jX11_copyRow_458_1 jX11_copyRow_458_2 jX11_copyRow_458_3 hk_k hs_k hk_k2 hs_k2 (Nat.min_le_left _ _) (Nat.min_le_right _ _) (Nat.lt_of_le_of_lt (Nat.min_le_left _ _) hn_n) (Nat.le_of_ble_eq_true rfl) (by decide) ?_
  exact rj_vret dX11_copyRow_14 rfl (Nat.le_of_ble_eq_true rfl) (Nat.le_of_ble_eq_true rfl) ⟨rfl, rfl, (by unfold mX11_copyRow; rfl)⟩
theorem hSX11_copyRow_ : yX11_copyRow_.cls ≠ "java/lang/invoke/MethodHandle" ∧ yX11_copyRow_.cls ≠ "java/lang/invoke/VarHandle" ∧ (parseMethodDescriptor yX11_copyRow_.desc).map (fun d => d.parameters.length) = some 2 := by decide +kernel
theorem hVX11_copyRow_ : yX11_copyRow_.cls = RX11 ∧ yX11_copyRow_.cls ≠ "java/lang/invoke/MethodHandle" ∧ yX11_copyRow_.cls ≠ "java/lang/invoke/VarHandle" ∧ (parseMethodDescriptor yX11_copyRow_.desc).map (fun d => d.parameters.length) = some 2 := by decide +kernel
theorem jX11_copyRow__433_0 : Cond.methodLink RX11 433 Lib.Math.min.name ∈ wsX11_copyRow_ := by decide +kernel
theorem jX11_copyRow__433_1 : Cond.static Lib.Math.min.name ∈ wsX11_copyRow_ := by decide +kernel
theorem jX11_copyRow__433_2 : Cond.initialized "java/lang/Math" ∈ wsX11_copyRow_ := by decide +kernel
theorem jX11_copyRow__433_3 : Cond.code Lib.Math.min.name Lib.Math.min.code 2 (some .int) ∈ wsX11_copyRow_ := by decide +kernel
theorem jX11_copyRow__458_0 : Cond.methodLink RX11 458 arraycopyName ∈ wsX11_copyRow_ := by decide +kernel
theorem jX11_copyRow__458_1 : Cond.native arraycopyName ∈ wsX11_copyRow_ := by decide +kernel
theorem jX11_copyRow__458_2 : Cond.static arraycopyName ∈ wsX11_copyRow_ := by decide +kernel
theorem jX11_copyRow__458_3 : Cond.initialized "java/lang/System" ∈ wsX11_copyRow_ := by decide +kernel
def mX11_copyRow_ (μ : rj_M) (k : Nat) (n : Nat) (k2 : Nat) (n2 : Nat) : rj_M := (rj_rl μ k2 (va_cpy (μ.2.1 k) (μ.2.1 k2) 0 0 (min n n2)))
set_option maxHeartbeats 4000000 in
set_option maxRecDepth 100000 in
theorem sX11_copyRow_ {g : rj_G} {ω : rj_W} (μ : rj_M) (k : Nat) (n : Nat) (k2 : Nat) (n2 : Nat) (hk_k : k < ω.1) (hs_k : ω.2.1 k = .inl (2, n)) (hn_n : n < 2 ^ 31) (hk_k2 : k2 < ω.1) (hs_k2 : ω.2.1 k2 = .inl (2, n2)) (hn_n2 : n2 < 2 ^ 31)  : rj_Sp g yX11_copyRow_ wsX11_copyRow_ (rj_rm 1 0) [.ref (ω.2.2 k), .ref (ω.2.2 k2)] ω μ (rj_D (.inl none) ω (mX11_copyRow_ μ k n k2 n2)) := by
  refine rj_of' (cc := cX11_copyRow_) (nL := 2) (ret := none) (own := RX11) (l0 := [(0, .ref (ω.2.2 k)), (1, .ref (ω.2.2 k2))]) rfl (by decide +kernel) rfl (Nat.le_of_ble_eq_true rfl) rfl ?_
  refine rj_aload_n 0 dX11_copyRow__0 rfl rfl ?_
  refine rj_iconst (v := 0) dX11_copyRow__1 rfl (by decide) ?_
  refine rj_aload_n 1 dX11_copyRow__2 rfl rfl ?_
  refine rj_iconst (v := 0) dX11_copyRow__3 rfl (by decide) ?_
  refine rj_aload_n 0 dX11_copyRow__4 rfl rfl ?_
  refine rj_alen (v := nI n) dX11_copyRow__5 rfl hk_k hs_k rfl rfl ?_
  refine rj_aload_n 1 dX11_copyRow__6 rfl rfl ?_
  refine rj_alen (v := nI n2) dX11_copyRow__7 rfl hk_k2 hs_k2 rfl rfl ?_
  refine rj_mmin dX11_copyRow__8 rfl jX11_copyRow__433_0 jX11_copyRow__433_1 jX11_copyRow__433_2 jX11_copyRow__433_3 (Nat.le_of_ble_eq_true rfl) (Nat.le_of_ble_eq_true rfl) (Nat.le_of_ble_eq_true rfl) (Nat.le_of_ble_eq_true rfl) ?_
  rw [show (if nI n2 < nI n then nI n2 else nI n) = nI (min n n2) from rj_minN hn_n hn_n2]
  refine rj_copyl (mm := (min n n2)) dX11_copyRow__11 rfl jX11_copyRow__458_0 jX11_copyRow__458_1 jX11_copyRow__458_2 jX11_copyRow__458_3 hk_k hs_k hk_k2 hs_k2 (Nat.min_le_left _ _) (Nat.min_le_right _ _) (Nat.lt_of_le_of_lt (Nat.min_le_left _ _) hn_n) (Nat.le_of_ble_eq_true rfl) (by decide) ?_
  exact rj_vret dX11_copyRow__14 rfl (Nat.le_of_ble_eq_true rfl) (Nat.le_of_ble_eq_true rfl) ⟨rfl, rfl, (by unfold mX11_copyRow_; rfl)⟩
theorem hSJ6_bitCount_0f7a4 : yJ6_bitCount_0f7a4.cls ≠ "java/lang/invoke/MethodHandle" ∧ yJ6_bitCount_0f7a4.cls ≠ "java/lang/invoke/VarHandle" ∧ (parseMethodDescriptor yJ6_bitCount_0f7a4.desc).map (fun d => d.parameters.length) = some 1 := by decide +kernel
theorem hVJ6_bitCount_0f7a4 : yJ6_bitCount_0f7a4.cls = RJ6 ∧ yJ6_bitCount_0f7a4.cls ≠ "java/lang/invoke/MethodHandle" ∧ yJ6_bitCount_0f7a4.cls ≠ "java/lang/invoke/VarHandle" ∧ (parseMethodDescriptor yJ6_bitCount_0f7a4.desc).map (fun d => d.parameters.length) = some 1 := by decide +kernel
def fJ6_bitCount_0f7a4 (μ : rj_M) (a0 : Int32) : Int32 := ((((((((a0 - (((a0.toUInt32 >>> ((1 : Int32).toUInt32 &&& Int32.toUInt32 31)).toInt32) &&& (1431655765))) &&& (858993459)) + ((((a0 - (((a0.toUInt32 >>> ((1 : Int32).toUInt32 &&& Int32.toUInt32 31)).toInt32) &&& (1431655765))).toUInt32 >>> ((2 : Int32).toUInt32 &&& Int32.toUInt32 31)).toInt32) &&& (858993459))) + (((((a0 - (((a0.toUInt32 >>> ((1 : Int32).toUInt32 &&& Int32.toUInt32 31)).toInt32) &&& (1431655765))) &&& (858993459)) + ((((a0 - (((a0.toUInt32 >>> ((1 : Int32).toUInt32 &&& Int32.toUInt32 31)).toInt32) &&& (1431655765))).toUInt32 >>> ((2 : Int32).toUInt32 &&& Int32.toUInt32 31)).toInt32) &&& (858993459))).toUInt32 >>> ((4 : Int32).toUInt32 &&& Int32.toUInt32 31)).toInt32)) &&& (252645135)) + (((((((a0 - (((a0.toUInt32 >>> ((1 : Int32).toUInt32 &&& Int32.toUInt32 31)).toInt32) &&& (1431655765))) &&& (858993459)) + ((((a0 - (((a0.toUInt32 >>> ((1 : Int32).toUInt32 &&& Int32.toUInt32 31)).toInt32) &&& (1431655765))).toUInt32 >>> ((2 : Int32).toUInt32 &&& Int32.toUInt32 31)).toInt32) &&& (858993459))) + (((((a0 - (((a0.toUInt32 >>> ((1 : Int32).toUInt32 &&& Int32.toUInt32 31)).toInt32) &&& (1431655765))) &&& (858993459)) + ((((a0 - (((a0.toUInt32 >>> ((1 : Int32).toUInt32 &&& Int32.toUInt32 31)).toInt32) &&& (1431655765))).toUInt32 >>> ((2 : Int32).toUInt32 &&& Int32.toUInt32 31)).toInt32) &&& (858993459))).toUInt32 >>> ((4 : Int32).toUInt32 &&& Int32.toUInt32 31)).toInt32)) &&& (252645135)).toUInt32 >>> ((8 : Int32).toUInt32 &&& Int32.toUInt32 31)).toInt32)) + ((((((((a0 - (((a0.toUInt32 >>> ((1 : Int32).toUInt32 &&& Int32.toUInt32 31)).toInt32) &&& (1431655765))) &&& (858993459)) + ((((a0 - (((a0.toUInt32 >>> ((1 : Int32).toUInt32 &&& Int32.toUInt32 31)).toInt32) &&& (1431655765))).toUInt32 >>> ((2 : Int32).toUInt32 &&& Int32.toUInt32 31)).toInt32) &&& (858993459))) + (((((a0 - (((a0.toUInt32 >>> ((1 : Int32).toUInt32 &&& Int32.toUInt32 31)).toInt32) &&& (1431655765))) &&& (858993459)) + ((((a0 - (((a0.toUInt32 >>> ((1 : Int32).toUInt32 &&& Int32.toUInt32 31)).toInt32) &&& (1431655765))).toUInt32 >>> ((2 : Int32).toUInt32 &&& Int32.toUInt32 31)).toInt32) &&& (858993459))).toUInt32 >>> ((4 : Int32).toUInt32 &&& Int32.toUInt32 31)).toInt32)) &&& (252645135)) + (((((((a0 - (((a0.toUInt32 >>> ((1 : Int32).toUInt32 &&& Int32.toUInt32 31)).toInt32) &&& (1431655765))) &&& (858993459)) + ((((a0 - (((a0.toUInt32 >>> ((1 : Int32).toUInt32 &&& Int32.toUInt32 31)).toInt32) &&& (1431655765))).toUInt32 >>> ((2 : Int32).toUInt32 &&& Int32.toUInt32 31)).toInt32) &&& (858993459))) + (((((a0 - (((a0.toUInt32 >>> ((1 : Int32).toUInt32 &&& Int32.toUInt32 31)).toInt32) &&& (1431655765))) &&& (858993459)) + ((((a0 - (((a0.toUInt32 >>> ((1 : Int32).toUInt32 &&& Int32.toUInt32 31)).toInt32) &&& (1431655765))).toUInt32 >>> ((2 : Int32).toUInt32 &&& Int32.toUInt32 31)).toInt32) &&& (858993459))).toUInt32 >>> ((4 : Int32).toUInt32 &&& Int32.toUInt32 31)).toInt32)) &&& (252645135)).toUInt32 >>> ((8 : Int32).toUInt32 &&& Int32.toUInt32 31)).toInt32)).toUInt32 >>> ((16 : Int32).toUInt32 &&& Int32.toUInt32 31)).toInt32)) &&& 63)
set_option maxHeartbeats 4000000 in
set_option maxRecDepth 100000 in
theorem sJ6_bitCount_0f7a4 {g : rj_G} {ω : rj_W} (μ : rj_M) (a0 : Int32)   : rj_Sp g yJ6_bitCount_0f7a4 wsJ6_bitCount_0f7a4 (rj_rm 0 0) [.int a0] ω μ (rj_D (.inl (some (.int (fJ6_bitCount_0f7a4 μ a0)))) ω μ) := by
  refine rj_of' (cc := cJ6_bitCount_0f7a4) (nL := 1) (ret := (some .int)) (own := RJ6) (l0 := [(0, .int a0)]) rfl (by decide +kernel) rfl (Nat.le_of_ble_eq_true rfl) rfl ?_
  refine rj_iload_n 0 dJ6_bitCount_0f7a4_0 rfl rfl ?_
  refine rj_iload_n 0 dJ6_bitCount_0f7a4_1 rfl rfl ?_
  refine rj_iconst (v := 1) dJ6_bitCount_0f7a4_2 rfl (by decide) ?_
  refine rj_iushr dJ6_bitCount_0f7a4_3 rfl ?_
  refine rj_ldcw (v := (1431655765)) dJ6_bitCount_0f7a4_4 rfl (by decide +kernel) ?_
  refine rj_iand dJ6_bitCount_0f7a4_7 rfl ?_
  refine rj_isub dJ6_bitCount_0f7a4_8 rfl ?_
  refine rj_istore_n (l' := [(0, .int (a0 - (((a0.toUInt32 >>> ((1 : Int32).toUInt32 &&& Int32.toUInt32 31)).toInt32) &&& (1431655765))))]) dJ6_bitCount_0f7a4_9 rfl (rj_bl rfl) rfl ?_
  refine rj_iload_n 0 dJ6_bitCount_0f7a4_10 rfl rfl ?_
  refine rj_ldcw (v := (858993459)) dJ6_bitCount_0f7a4_11 rfl (by decide +kernel) ?_
  refine rj_iand dJ6_bitCount_0f7a4_14 rfl ?_
  refine rj_iload_n 0 dJ6_bitCount_0f7a4_15 rfl rfl ?_
  refine rj_iconst (v := 2) dJ6_bitCount_0f7a4_16 rfl (by decide) ?_
  refine rj_iushr dJ6_bitCount_0f7a4_17 rfl ?_
  refine rj_ldcw (v := (858993459)) dJ6_bitCount_0f7a4_18 rfl (by decide +kernel) ?_
  refine rj_iand dJ6_bitCount_0f7a4_21 rfl ?_
  refine rj_iadd dJ6_bitCount_0f7a4_22 rfl ?_
  refine rj_istore_n (l' := [(0, .int (((a0 - (((a0.toUInt32 >>> ((1 : Int32).toUInt32 &&& Int32.toUInt32 31)).toInt32) &&& (1431655765))) &&& (858993459)) + ((((a0 - (((a0.toUInt32 >>> ((1 : Int32).toUInt32 &&& Int32.toUInt32 31)).toInt32) &&& (1431655765))).toUInt32 >>> ((2 : Int32).toUInt32 &&& Int32.toUInt32 31)).toInt32) &&& (858993459))))]) dJ6_bitCount_0f7a4_23 rfl (rj_bl rfl) rfl ?_
  refine rj_iload_n 0 dJ6_bitCount_0f7a4_24 rfl rfl ?_
  refine rj_iload_n 0 dJ6_bitCount_0f7a4_25 rfl rfl ?_
  refine rj_iconst (v := 4) dJ6_bitCount_0f7a4_26 rfl (by decide) ?_
  refine rj_iushr dJ6_bitCount_0f7a4_27 rfl ?_
  refine rj_iadd dJ6_bitCount_0f7a4_28 rfl ?_
  refine rj_ldcw (v := (252645135)) dJ6_bitCount_0f7a4_29 rfl (by decide +kernel) ?_
  refine rj_iand dJ6_bitCount_0f7a4_32 rfl ?_
  refine rj_istore_n (l' := [(0, .int (((((a0 - (((a0.toUInt32 >>> ((1 : Int32).toUInt32 &&& Int32.toUInt32 31)).toInt32) &&& (1431655765))) &&& (858993459)) + ((((a0 - (((a0.toUInt32 >>> ((1 : Int32).toUInt32 &&& Int32.toUInt32 31)).toInt32) &&& (1431655765))).toUInt32 >>> ((2 : Int32).toUInt32 &&& Int32.toUInt32 31)).toInt32) &&& (858993459))) + (((((a0 - (((a0.toUInt32 >>> ((1 : Int32).toUInt32 &&& Int32.toUInt32 31)).toInt32) &&& (1431655765))) &&& (858993459)) + ((((a0 - (((a0.toUInt32 >>> ((1 : Int32).toUInt32 &&& Int32.toUInt32 31)).toInt32) &&& (1431655765))).toUInt32 >>> ((2 : Int32).toUInt32 &&& Int32.toUInt32 31)).toInt32) &&& (858993459))).toUInt32 >>> ((4 : Int32).toUInt32 &&& Int32.toUInt32 31)).toInt32)) &&& (252645135)))]) dJ6_bitCount_0f7a4_33 rfl (rj_bl rfl) rfl ?_
  refine rj_iload_n 0 dJ6_bitCount_0f7a4_34 rfl rfl ?_
  refine rj_iload_n 0 dJ6_bitCount_0f7a4_35 rfl rfl ?_
  refine rj_bipush (v := 8) dJ6_bitCount_0f7a4_36 rfl (by decide) ?_
  refine rj_iushr dJ6_bitCount_0f7a4_38 rfl ?_
  refine rj_iadd dJ6_bitCount_0f7a4_39 rfl ?_
  refine rj_istore_n (l' := [(0, .int ((((((a0 - (((a0.toUInt32 >>> ((1 : Int32).toUInt32 &&& Int32.toUInt32 31)).toInt32) &&& (1431655765))) &&& (858993459)) + ((((a0 - (((a0.toUInt32 >>> ((1 : Int32).toUInt32 &&& Int32.toUInt32 31)).toInt32) &&& (1431655765))).toUInt32 >>> ((2 : Int32).toUInt32 &&& Int32.toUInt32 31)).toInt32) &&& (858993459))) + (((((a0 - (((a0.toUInt32 >>> ((1 : Int32).toUInt32 &&& Int32.toUInt32 31)).toInt32) &&& (1431655765))) &&& (858993459)) + ((((a0 - (((a0.toUInt32 >>> ((1 : Int32).toUInt32 &&& Int32.toUInt32 31)).toInt32) &&& (1431655765))).toUInt32 >>> ((2 : Int32).toUInt32 &&& Int32.toUInt32 31)).toInt32) &&& (858993459))).toUInt32 >>> ((4 : Int32).toUInt32 &&& Int32.toUInt32 31)).toInt32)) &&& (252645135)) + (((((((a0 - (((a0.toUInt32 >>> ((1 : Int32).toUInt32 &&& Int32.toUInt32 31)).toInt32) &&& (1431655765))) &&& (858993459)) + ((((a0 - (((a0.toUInt32 >>> ((1 : Int32).toUInt32 &&& Int32.toUInt32 31)).toInt32) &&& (1431655765))).toUInt32 >>> ((2 : Int32).toUInt32 &&& Int32.toUInt32 31)).toInt32) &&& (858993459))) + (((((a0 - (((a0.toUInt32 >>> ((1 : Int32).toUInt32 &&& Int32.toUInt32 31)).toInt32) &&& (1431655765))) &&& (858993459)) + ((((a0 - (((a0.toUInt32 >>> ((1 : Int32).toUInt32 &&& Int32.toUInt32 31)).toInt32) &&& (1431655765))).toUInt32 >>> ((2 : Int32).toUInt32 &&& Int32.toUInt32 31)).toInt32) &&& (858993459))).toUInt32 >>> ((4 : Int32).toUInt32 &&& Int32.toUInt32 31)).toInt32)) &&& (252645135)).toUInt32 >>> ((8 : Int32).toUInt32 &&& Int32.toUInt32 31)).toInt32)))]) dJ6_bitCount_0f7a4_40 rfl (rj_bl rfl) rfl ?_
  refine rj_iload_n 0 dJ6_bitCount_0f7a4_41 rfl rfl ?_
  refine rj_iload_n 0 dJ6_bitCount_0f7a4_42 rfl rfl ?_
  refine rj_bipush (v := 16) dJ6_bitCount_0f7a4_43 rfl (by decide) ?_
  refine rj_iushr dJ6_bitCount_0f7a4_45 rfl ?_
  refine rj_iadd dJ6_bitCount_0f7a4_46 rfl ?_
  refine rj_istore_n (l' := [(0, .int (((((((a0 - (((a0.toUInt32 >>> ((1 : Int32).toUInt32 &&& Int32.toUInt32 31)).toInt32) &&& (1431655765))) &&& (858993459)) + ((((a0 - (((a0.toUInt32 >>> ((1 : Int32).toUInt32 &&& Int32.toUInt32 31)).toInt32) &&& (1431655765))).toUInt32 >>> ((2 : Int32).toUInt32 &&& Int32.toUInt32 31)).toInt32) &&& (858993459))) + (((((a0 - (((a0.toUInt32 >>> ((1 : Int32).toUInt32 &&& Int32.toUInt32 31)).toInt32) &&& (1431655765))) &&& (858993459)) + ((((a0 - (((a0.toUInt32 >>> ((1 : Int32).toUInt32 &&& Int32.toUInt32 31)).toInt32) &&& (1431655765))).toUInt32 >>> ((2 : Int32).toUInt32 &&& Int32.toUInt32 31)).toInt32) &&& (858993459))).toUInt32 >>> ((4 : Int32).toUInt32 &&& Int32.toUInt32 31)).toInt32)) &&& (252645135)) + (((((((a0 - (((a0.toUInt32 >>> ((1 : Int32).toUInt32 &&& Int32.toUInt32 31)).toInt32) &&& (1431655765))) &&& (858993459)) + ((((a0 - (((a0.toUInt32 >>> ((1 : Int32).toUInt32 &&& Int32.toUInt32 31)).toInt32) &&& (1431655765))).toUInt32 >>> ((2 : Int32).toUInt32 &&& Int32.toUInt32 31)).toInt32) &&& (858993459))) + (((((a0 - (((a0.toUInt32 >>> ((1 : Int32).toUInt32 &&& Int32.toUInt32 31)).toInt32) &&& (1431655765))) &&& (858993459)) + ((((a0 - (((a0.toUInt32 >>> ((1 : Int32).toUInt32 &&& Int32.toUInt32 31)).toInt32) &&& (1431655765))).toUInt32 >>> ((2 : Int32).toUInt32 &&& Int32.toUInt32 31)).toInt32) &&& (858993459))).toUInt32 >>> ((4 : Int32).toUInt32 &&& Int32.toUInt32 31)).toInt32)) &&& (252645135)).toUInt32 >>> ((8 : Int32).toUInt32 &&& Int32.toUInt32 31)).toInt32)) + ((((((((a0 - (((a0.toUInt32 >>> ((1 : Int32).toUInt32 &&& Int32.toUInt32 31)).toInt32) &&& (1431655765))) &&& (858993459)) + ((((a0 - (((a0.toUInt32 >>> ((1 : Int32).toUInt32 &&& Int32.toUInt32 31)).toInt32) &&& (1431655765))).toUInt32 >>> ((2 : Int32).toUInt32 &&& Int32.toUInt32 31)).toInt32) &&& (858993459))) + (((((a0 - (((a0.toUInt32 >>> ((1 : Int32).toUInt32 &&& Int32.toUInt32 31)).toInt32) &&& (1431655765))) &&& (858993459)) + ((((a0 - (((a0.toUInt32 >>> ((1 : Int32).toUInt32 &&& Int32.toUInt32 31)).toInt32) &&& (1431655765))).toUInt32 >>> ((2 : Int32).toUInt32 &&& Int32.toUInt32 31)).toInt32) &&& (858993459))).toUInt32 >>> ((4 : Int32).toUInt32 &&& Int32.toUInt32 31)).toInt32)) &&& (252645135)) + (((((((a0 - (((a0.toUInt32 >>> ((1 : Int32).toUInt32 &&& Int32.toUInt32 31)).toInt32) &&& (1431655765))) &&& (858993459)) + ((((a0 - (((a0.toUInt32 >>> ((1 : Int32).toUInt32 &&& Int32.toUInt32 31)).toInt32) &&& (1431655765))).toUInt32 >>> ((2 : Int32).toUInt32 &&& Int32.toUInt32 31)).toInt32) &&& (858993459))) + (((((a0 - (((a0.toUInt32 >>> ((1 : Int32).toUInt32 &&& Int32.toUInt32 31)).toInt32) &&& (1431655765))) &&& (858993459)) + ((((a0 - (((a0.toUInt32 >>> ((1 : Int32).toUInt32 &&& Int32.toUInt32 31)).toInt32) &&& (1431655765))).toUInt32 >>> ((2 : Int32).toUInt32 &&& Int32.toUInt32 31)).toInt32) &&& (858993459))).toUInt32 >>> ((4 : Int32).toUInt32 &&& Int32.toUInt32 31)).toInt32)) &&& (252645135)).toUInt32 >>> ((8 : Int32).toUInt32 &&& Int32.toUInt32 31)).toInt32)).toUInt32 >>> ((16 : Int32).toUInt32 &&& Int32.toUInt32 31)).toInt32)))]) dJ6_bitCount_0f7a4_47 rfl (rj_bl rfl) rfl ?_
  refine rj_iload_n 0 dJ6_bitCount_0f7a4_48 rfl rfl ?_
  refine rj_bipush (v := 63) dJ6_bitCount_0f7a4_49 rfl (by decide) ?_
  refine rj_iand dJ6_bitCount_0f7a4_51 rfl ?_
  exact rj_iret dJ6_bitCount_0f7a4_52 rfl (Nat.le_of_ble_eq_true rfl) (Nat.le_of_ble_eq_true rfl) ⟨(by unfold fJ6_bitCount_0f7a4; rfl), rfl, rfl⟩
