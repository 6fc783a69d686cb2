theorem hSX12_goes : yX12_goes.cls ≠ "java/lang/invoke/MethodHandle" ∧ yX12_goes.cls ≠ "java/lang/invoke/VarHandle" ∧ (parseMethodDescriptor yX12_goes.desc).map (fun d => d.parameters.length) = some 1 := by decide +kernel
theorem hVX12_goes : yX12_goes.cls = RX12 ∧ yX12_goes.cls ≠ "java/lang/invoke/MethodHandle" ∧ yX12_goes.cls ≠ "java/lang/invoke/VarHandle" ∧ (parseMethodDescriptor yX12_goes.desc).map (fun d => d.parameters.length) = some 1 := by decide +kernel
theorem vX12_goes_12 : ∀ w ∈ u_ws RX12 TX12 16, w ∈ wsX12_goes := by decide +kernel
theorem kX12_goes_9 : Cond.fieldLink RX12 9 (TX12 1).1 (TX12 1).2.1 (TX12 1).2.2.1 ∈ wsX12_goes := by decide +kernel
def bX12_goes_15 (μ : rj_M) (a0 : Int32) (j15 : Nat) (s15 : rj_M) : rj_M := (rj_pi s15 396 ((119 + (16 * (nI j15))) + a0).toNatClampNeg 0)
set_option maxHeartbeats 4000000 in
set_option maxRecDepth 100000 in
theorem lX12_goes_15 {g : rj_G} {ω : rj_W} (hω : rj_ok ω) (μ : rj_M) (a0 : Int32)     (hp_a0 : (vp_in a0 16)) {F : rj_F} : ∀ (r j : Nat) (s : rj_M), j + r = 12 → (rj_R g RX12 cX12_goes 3 none wsX12_goes [] (rj_rm 0 0) F 0 ω (rj_fo (bX12_goes_15 μ a0) r j s) [(0, .ref (ω.2.2 395)), (1, .int a0), (2, .int (nI 12))] 42 []) → rj_R g RX12 cX12_goes 3 none wsX12_goes [] (rj_rm 0 0) F 0 ω s [(0, .ref (ω.2.2 395)), (1, .int a0), (2, .int (nI j))] 15 [] := by
  intro r
  induction r with
  | zero =>
    intro j s hj K
    have e0 : j = 12 := by omega
    have hge : 12 ≤ nI j := by
      rw [e0]
      exact Int32.le_refl _
    refine rj_iload_n 2 dX12_goes_15 rfl rfl ?_
    refine rj_bipush (v := 12) dX12_goes_16 rfl (by decide) ?_
    refine rj_icmp_ge dX12_goes_18 rfl rfl (fun h2 => ?_) (fun h2 => ?_)
    · have e1 : nI j = nI 12 := by rw [e0]
      rw [e1]
      exact K
    · exact absurd hge h2
  | succ r ih =>
    intro j15 s15 hj K
    have hl15 : j15 < 12 := by omega
    have hg15 : ¬ 12 ≤ nI j15 := nI_ge hl15 (rj_bl rfl)
    refine rj_iload_n 2 dX12_goes_15 rfl rfl ?_
    refine rj_bipush (v := 12) dX12_goes_16 rfl (by decide) ?_
    refine rj_icmp_ge dX12_goes_18 rfl rfl (fun h1 => ?_) (fun h1 => ?_)
    · exact absurd h1 hg15
    · refine rj_aload_n 0 dX12_goes_21 rfl rfl ?_
      refine rj_getR (C0 := RX12) (T := TX12) (N := 16) (j := 1) (r := 396) dX12_goes_22 rfl vX12_goes_12 rfl (rj_lt hω (k := 395) rfl) (rj_sh hω ly_395) (by decide) kX12_goes_9 rfl ?_
      refine rj_bipush (v := 119) dX12_goes_25 rfl (by decide) ?_
      refine rj_bipush (v := 16) dX12_goes_27 rfl (by decide) ?_
      refine rj_iload_n 2 dX12_goes_29 rfl rfl ?_
      refine rj_imul dX12_goes_30 rfl ?_
      refine rj_iadd dX12_goes_31 rfl ?_
      refine rj_iload_n 1 dX12_goes_32 rfl rfl ?_
      refine rj_iadd dX12_goes_33 rfl ?_
      refine rj_iconst (v := 0) dX12_goes_34 rfl (by decide) ?_
      refine rj_iast dX12_goes_35 rfl (rj_lt hω (k := 396) rfl) (rj_sh hω ly_396) (rj_vle (rj_vadd (N := 311) (rj_vadd (N := 296) (vp_in_nI (n := 119) (N := 120) (rj_bl rfl) (rj_bl rfl)) (rj_vmul (k := 16) (N := 177) (vp_in_nI (N := 12) hl15 (rj_bl rfl)) rfl rfl) rfl rfl) hp_a0 rfl rfl) rfl) ?_
      refine rj_iinc (v := nI (j15 + 1)) (l' := [(2, .int (nI (j15 + 1))), (0, .ref (ω.2.2 395)), (1, .int a0)]) 2 dX12_goes_36 rfl rfl (nI_succ j15).symm (rj_bl rfl) rfl ?_
      refine rj_goto dX12_goes_39 rfl ?_
      have e : bX12_goes_15 μ a0 j15 s15 = (rj_pi s15 396 ((119 + (16 * (nI j15))) + a0).toNatClampNeg 0) := by unfold bX12_goes_15; rfl
      exact rj_sub (l' := [(0, .ref (ω.2.2 395)), (1, .int a0), (2, .int (nI (j15 + 1)))]) [1, 2, 0] rfl (ih (j15 + 1) (rj_pi s15 396 ((119 + (16 * (nI j15))) + a0).toNatClampNeg 0) (by omega) (by rw [rj_fo_s, e] at K; exact K))
def mX12_goes (μ : rj_M) (a0 : Int32) : rj_M := (rj_fo (bX12_goes_15 μ a0) 12 0 (rj_pi μ 396 (23 + (6 * a0)).toNatClampNeg 0))
set_option maxHeartbeats 40000000 in
set_option maxRecDepth 100000 in
theorem sX12_goes {g : rj_G} {ω : rj_W} (hω : rj_ok ω) (μ : rj_M) (a0 : Int32)  (hp_a0 : vp_in a0 16)  : rj_Sp g yX12_goes wsX12_goes (rj_rm 0 0) [.ref (ω.2.2 395), .int a0] ω μ (rj_D (.inl none) ω (mX12_goes μ a0)) := by
  refine rj_of' (cc := cX12_goes) (nL := 3) (ret := none) (own := RX12) (l0 := [(0, .ref (ω.2.2 395)), (1, .int a0)]) rfl (by decide +kernel) rfl (Nat.le_of_ble_eq_true rfl) rfl ?_
  refine rj_aload_n 0 dX12_goes_0 rfl rfl ?_
  refine rj_getR (C0 := RX12) (T := TX12) (N := 16) (j := 1) (r := 396) dX12_goes_1 rfl vX12_goes_12 rfl (rj_lt hω (k := 395) rfl) (rj_sh hω ly_395) (by decide) kX12_goes_9 rfl ?_
  refine rj_bipush (v := 23) dX12_goes_4 rfl (by decide) ?_
  refine rj_bipush (v := 6) dX12_goes_6 rfl (by decide) ?_
  refine rj_iload_n 1 dX12_goes_8 rfl rfl ?_
  refine rj_imul dX12_goes_9 rfl ?_
  refine rj_iadd dX12_goes_10 rfl ?_
  refine rj_iconst (v := 0) dX12_goes_11 rfl (by decide) ?_
  refine rj_iast dX12_goes_12 rfl (rj_lt hω (k := 396) rfl) (rj_sh hω ly_396) (rj_vle (rj_vadd (N := 114) (vp_in_nI (n := 23) (N := 24) (rj_bl rfl) (rj_bl rfl)) (rj_vmul (k := 6) (N := 91) hp_a0 rfl rfl) rfl rfl) rfl) ?_
  refine rj_iconst (v := 0) dX12_goes_13 rfl (by decide) ?_
  refine rj_istore_n (l' := [(2, .int 0), (0, .ref (ω.2.2 395)), (1, .int a0)]) dX12_goes_14 rfl (rj_bl rfl) rfl ?_
  refine rj_sub (l' := [(0, .ref (ω.2.2 395)), (1, .int a0), (2, .int (nI 0))]) [1, 2, 0] rfl ?_
  refine lX12_goes_15 hω μ a0     hp_a0 12 0 (rj_pi μ 396 (23 + (6 * a0)).toNatClampNeg 0) rfl ?_
  exact rj_vret dX12_goes_42 rfl (Nat.le_of_ble_eq_true rfl) (Nat.le_of_ble_eq_true rfl) ⟨rfl, rfl, (by unfold mX12_goes; rfl)⟩
theorem hSX12_drop : yX12_drop.cls ≠ "java/lang/invoke/MethodHandle" ∧ yX12_drop.cls ≠ "java/lang/invoke/VarHandle" ∧ (parseMethodDescriptor yX12_drop.desc).map (fun d => d.parameters.length) = some 1 := by decide +kernel
theorem hVX12_drop : yX12_drop.cls = RX12 ∧ yX12_drop.cls ≠ "java/lang/invoke/MethodHandle" ∧ yX12_drop.cls ≠ "java/lang/invoke/VarHandle" ∧ (parseMethodDescriptor yX12_drop.desc).map (fun d => d.parameters.length) = some 1 := by decide +kernel
def fX12_drop (μ : rj_M) (a0 : Int32) : Int32 := (if (fX12_lacks μ (fX12_isAct μ a0)) = 0 then (fX12_pleases (mX12_keeps (mX12_lacks μ (fX12_isAct μ a0))) a0) else 0)
def mX12_drop (μ : rj_M) (a0 : Int32) : rj_M := (if (fX12_lacks μ (fX12_isAct μ a0)) = 0 then (mX12_goes (mX12_keeps (mX12_lacks μ (fX12_isAct μ a0))) a0) else (mX12_lacks μ (fX12_isAct μ a0)))
def qX12_drop (μ : rj_M) (a0 : Int32) : Prop := ((((fX12_lacks μ (fX12_isAct μ a0)) = 0) → (qX12_keeps (mX12_lacks μ (fX12_isAct μ a0)) ∧ vp_in a0 16 ∧ vp_in a0 16 ∧ True)) ∧ ((¬ ((fX12_lacks μ (fX12_isAct μ a0)) = 0)) → True))
set_option maxHeartbeats 40000000 in
set_option maxRecDepth 100000 in
theorem sX12_drop {g : rj_G} {ω : rj_W} (hω : rj_ok ω) (μ : rj_M) (a0 : Int32)   (hq : qX12_drop μ a0) : rj_Sp g yX12_drop wsX12_drop (rj_rm 2 0) [.ref (ω.2.2 395), .int a0] ω μ (rj_D (.inl (some (.int (fX12_drop μ a0)))) ω (mX12_drop μ a0)) := by
  have hqa := hq
  unfold qX12_drop at hqa
  refine rj_of' (cc := cX12_drop) (nL := 3) (ret := (some .int)) (own := RX12) (l0 := [(0, .ref (ω.2.2 395)), (1, .int a0)]) rfl (by decide +kernel) rfl (Nat.le_of_ble_eq_true rfl) rfl ?_
  refine rj_aload_n 0 dX12_drop_0 rfl rfl ?_
  refine rj_aload_n 0 dX12_drop_1 rfl rfl ?_
  refine rj_iload_n 1 dX12_drop_2 rfl rfl ?_
  refine rj_cV (rest := [.ref (ω.2.2 395)]) (sX12_isAct (g := g) (ω := ω) hω μ a0   ) gX12_drop_X12_isAct (rj_lt hω (k := 395) rfl) (rj_sh hω ly_395) rfl rfl hVX12_isAct ⟨Nat.le_of_ble_eq_true rfl, Nat.le_of_ble_eq_true rfl⟩ dX12_drop_3 rfl rfl rfl (Nat.le_of_ble_eq_true rfl) rfl (Nat.le_of_ble_eq_true rfl) rfl ?_
  refine rj_cV (rest := []) (sX12_lacks (g := g) (ω := ω) hω μ (fX12_isAct μ a0)   ) gX12_drop_X12_lacks (rj_lt hω (k := 395) rfl) (rj_sh hω ly_395) rfl rfl hVX12_lacks ⟨Nat.le_of_ble_eq_true rfl, Nat.le_of_ble_eq_true rfl⟩ dX12_drop_6 rfl rfl rfl (Nat.le_of_ble_eq_true rfl) rfl (Nat.le_of_ble_eq_true rfl) rfl ?_
  refine rj_if_eq dX12_drop_9 rfl rfl (fun h1 => ?_) (fun h1 => ?_)
  · have hq1 := (And.left hqa) h1
    refine rj_aload_n 0 dX12_drop_14 rfl rfl ?_
    refine rj_cV (rest := []) (sX12_keeps (g := g) (ω := ω) hω (mX12_lacks μ (fX12_isAct μ a0))   (And.left hq1)) gX12_drop_X12_keeps (rj_lt hω (k := 395) rfl) (rj_sh hω ly_395) rfl rfl hVX12_keeps ⟨Nat.le_of_ble_eq_true rfl, Nat.le_of_ble_eq_true rfl⟩ dX12_drop_15 rfl rfl rfl (Nat.le_of_ble_eq_true rfl) rfl (Nat.le_of_ble_eq_true rfl) rfl ?_
    refine rj_aload_n 0 dX12_drop_18 rfl rfl ?_
    refine rj_iload_n 1 dX12_drop_19 rfl rfl ?_
    refine rj_cV (rest := []) (sX12_pleases (g := g) (ω := ω) hω (mX12_keeps (mX12_lacks μ (fX12_isAct μ a0))) a0  (And.left (And.right hq1)) ) gX12_drop_X12_pleases (rj_lt hω (k := 395) rfl) (rj_sh hω ly_395) rfl rfl hVX12_pleases ⟨Nat.le_of_ble_eq_true rfl, Nat.le_of_ble_eq_true rfl⟩ dX12_drop_20 rfl rfl rfl (Nat.le_of_ble_eq_true rfl) rfl (Nat.le_of_ble_eq_true rfl) rfl ?_
    refine rj_istore_n (l' := [(2, .int (fX12_pleases (mX12_keeps (mX12_lacks μ (fX12_isAct μ a0))) a0)), (0, .ref (ω.2.2 395)), (1, .int a0)]) dX12_drop_23 rfl (rj_bl rfl) rfl ?_
    refine rj_aload_n 1 dX12_drop_24 rfl rfl ?_
    refine rj_iload_n 2 dX12_drop_25 rfl rfl ?_
    refine rj_cV (rest := []) (sX12_goes (g := g) (ω := ω) hω (mX12_keeps (mX12_lacks μ (fX12_isAct μ a0))) a0  (And.left (And.right (And.right hq1))) ) gX12_drop_X12_goes (rj_lt hω (k := 395) rfl) (rj_sh hω ly_395) rfl rfl hVX12_goes ⟨Nat.le_of_ble_eq_true rfl, Nat.le_of_ble_eq_true rfl⟩ dX12_drop_26 rfl rfl rfl (Nat.le_of_ble_eq_true rfl) rfl (Nat.le_of_ble_eq_true rfl) rfl ?_
    refine rj_iload_n 0 dX12_drop_29 rfl rfl ?_
    exact rj_iret dX12_drop_30 rfl (Nat.le_of_ble_eq_true rfl) (Nat.le_of_ble_eq_true rfl) ⟨(by unfold fX12_drop; rw [if_pos h1]; try rfl), rfl, (by unfold mX12_drop; rw [if_pos h1]; try rfl)⟩
  · skip
    refine rj_iconst (v := 0) dX12_drop_12 rfl (by decide) ?_
    exact rj_iret dX12_drop_13 rfl (Nat.le_of_ble_eq_true rfl) (Nat.le_of_ble_eq_true rfl) ⟨(by unfold fX12_drop; rw [if_neg h1]; try rfl), rfl, (by unfold mX12_drop; rw [if_neg h1]; try rfl)⟩
