theorem hSX12_wishOf : yX12_wishOf.cls ≠ "java/lang/invoke/MethodHandle" ∧ yX12_wishOf.cls ≠ "java/lang/invoke/VarHandle" ∧ (parseMethodDescriptor yX12_wishOf.desc).map (fun d => d.parameters.length) = some 2 := by decide +kernel
theorem hVX12_wishOf : yX12_wishOf.cls = RX12 ∧ yX12_wishOf.cls ≠ "java/lang/invoke/MethodHandle" ∧ yX12_wishOf.cls ≠ "java/lang/invoke/VarHandle" ∧ (parseMethodDescriptor yX12_wishOf.desc).map (fun d => d.parameters.length) = some 2 := by decide +kernel
theorem vX12_wishOf_12 : ∀ w ∈ u_ws RX12 TX12 16, w ∈ wsX12_wishOf := by decide +kernel
theorem kX12_wishOf_9 : Cond.fieldLink RX12 9 (TX12 1).1 (TX12 1).2.1 (TX12 1).2.2.1 ∈ wsX12_wishOf := by decide +kernel
def fX12_wishOf (μ : rj_M) (a0 : Int32) (a1 : Int32) : Int32 := (μ.1 396 ((119 + (16 * a0)) + a1).toNatClampNeg)
set_option maxHeartbeats 40000000 in
set_option maxRecDepth 100000 in
theorem sX12_wishOf {g : rj_G} {ω : rj_W} (hω : rj_ok ω) (μ : rj_M) (a0 : Int32) (a1 : Int32)  (hp_a0 : vp_in a0 12) (hp_a1 : vp_in a1 16)  : rj_Sp g yX12_wishOf wsX12_wishOf (rj_rm 0 0) [.ref (ω.2.2 395), .int a0, .int a1] ω μ (rj_D (.inl (some (.int (fX12_wishOf μ a0 a1)))) ω μ) := by
  refine rj_of' (cc := cX12_wishOf) (nL := 3) (ret := (some .int)) (own := RX12) (l0 := [(0, .ref (ω.2.2 395)), (1, .int a0), (2, .int a1)]) rfl (by decide +kernel) rfl (Nat.le_of_ble_eq_true rfl) rfl ?_
  refine rj_aload_n 0 dX12_wishOf_0 rfl rfl ?_
  refine rj_getR (C0 := RX12) (T := TX12) (N := 16) (j := 1) (r := 396) dX12_wishOf_1 rfl vX12_wishOf_12 rfl (rj_lt hω (k := 395) rfl) (rj_sh hω ly_395) (by decide) kX12_wishOf_9 rfl ?_
  refine rj_bipush (v := 119) dX12_wishOf_4 rfl (by decide) ?_
  refine rj_bipush (v := 16) dX12_wishOf_6 rfl (by decide) ?_
  refine rj_iload_n 1 dX12_wishOf_8 rfl rfl ?_
  refine rj_imul dX12_wishOf_9 rfl ?_
  refine rj_iadd dX12_wishOf_10 rfl ?_
  refine rj_iload_n 2 dX12_wishOf_11 rfl rfl ?_
  refine rj_iadd dX12_wishOf_12 rfl ?_
  refine rj_iald dX12_wishOf_13 rfl (rj_lt hω (k := 396) rfl) (rj_sh hω ly_396) (rj_vle (rj_vadd (N := 311) (rj_vadd (N := 296) (vp_in_nI (n := 119) (N := 120) (rj_bl rfl) (rj_bl rfl)) (rj_vmul (k := 16) (N := 177) hp_a0 rfl rfl) rfl rfl) hp_a1 rfl rfl) rfl) ?_
  exact rj_iret dX12_wishOf_14 rfl (Nat.le_of_ble_eq_true rfl) (Nat.le_of_ble_eq_true rfl) ⟨(by unfold fX12_wishOf; rfl), rfl, rfl⟩
theorem hSX12_pleases : yX12_pleases.cls ≠ "java/lang/invoke/MethodHandle" ∧ yX12_pleases.cls ≠ "java/lang/invoke/VarHandle" ∧ (parseMethodDescriptor yX12_pleases.desc).map (fun d => d.parameters.length) = some 1 := by decide +kernel
theorem hVX12_pleases : yX12_pleases.cls = RX12 ∧ yX12_pleases.cls ≠ "java/lang/invoke/MethodHandle" ∧ yX12_pleases.cls ≠ "java/lang/invoke/VarHandle" ∧ (parseMethodDescriptor yX12_pleases.desc).map (fun d => d.parameters.length) = some 1 := by decide +kernel
def bX12_pleases_4 (μ : rj_M) (a0 : Int32) (j4 : Nat) (s4 : Int32) : Int32 := (s4 + (fX12_wishOf μ (nI j4) a0))
set_option maxHeartbeats 4000000 in
set_option maxRecDepth 100000 in
theorem lX12_pleases_4 {g : rj_G} {ω : rj_W} (hω : rj_ok ω) (μ : rj_M) (a0 : Int32)     (hp_a0 : (vp_in a0 16)) {F : rj_F} : ∀ (r j : Nat) (s : Int32), j + r = 12 → (rj_R g RX12 cX12_pleases 4 (some .int) wsX12_pleases [] (rj_rm 1 0) F 0 ω μ [(0, .ref (ω.2.2 395)), (1, .int a0), (2, .int (rj_fo (bX12_pleases_4 μ a0) r j s)), (3, .int (nI 12))] 25 []) → rj_R g RX12 cX12_pleases 4 (some .int) wsX12_pleases [] (rj_rm 1 0) F 0 ω μ [(0, .ref (ω.2.2 395)), (1, .int a0), (2, .int s), (3, .int (nI j))] 4 [] := by
  intro r
  induction r with
  | zero =>
    intro j s hj K
    have e0 : j = 12 := by omega
    have hge : 12 ≤ nI j := by
      rw [e0]
      exact Int32.le_refl _
    refine rj_iload_n 3 dX12_pleases_4 rfl rfl ?_
    refine rj_bipush (v := 12) dX12_pleases_5 rfl (by decide) ?_
    refine rj_icmp_ge dX12_pleases_7 rfl rfl (fun h2 => ?_) (fun h2 => ?_)
    · have e1 : nI j = nI 12 := by rw [e0]
      rw [e1]
      exact K
    · exact absurd hge h2
  | succ r ih =>
    intro j4 s4 hj K
    have hl4 : j4 < 12 := by omega
    have hg4 : ¬ 12 ≤ nI j4 := nI_ge hl4 (rj_bl rfl)
    refine rj_iload_n 3 dX12_pleases_4 rfl rfl ?_
    refine rj_bipush (v := 12) dX12_pleases_5 rfl (by decide) ?_
    refine rj_icmp_ge dX12_pleases_7 rfl rfl (fun h1 => ?_) (fun h1 => ?_)
    · exact absurd h1 hg4
    · refine rj_iload_n 2 dX12_pleases_10 rfl rfl ?_
      refine rj_aload_n 0 dX12_pleases_11 rfl rfl ?_
      refine rj_iload_n 3 dX12_pleases_12 rfl rfl ?_
      refine rj_iload_n 1 dX12_pleases_13 rfl rfl ?_
      refine rj_cV (rest := [.int s4]) (sX12_wishOf (g := g) (ω := ω) hω μ (nI j4) a0  (vp_in_nI hl4 (rj_bl rfl)) hp_a0 ) gX12_pleases_X12_wishOf (rj_lt hω (k := 395) rfl) (rj_sh hω ly_395) rfl rfl hVX12_wishOf ⟨Nat.le_of_ble_eq_true rfl, Nat.le_of_ble_eq_true rfl⟩ dX12_pleases_14 rfl rfl rfl (Nat.le_of_ble_eq_true rfl) rfl (Nat.le_of_ble_eq_true rfl) rfl ?_
      refine rj_iadd dX12_pleases_17 rfl ?_
      refine rj_istore_n (l' := [(2, .int (s4 + (fX12_wishOf μ (nI j4) a0))), (0, .ref (ω.2.2 395)), (1, .int a0), (3, .int (nI j4))]) dX12_pleases_18 rfl (rj_bl rfl) rfl ?_
      refine rj_iinc (v := nI (j4 + 1)) (l' := [(3, .int (nI (j4 + 1))), (2, .int (s4 + (fX12_wishOf μ (nI j4) a0))), (0, .ref (ω.2.2 395)), (1, .int a0)]) 3 dX12_pleases_19 rfl rfl (nI_succ j4).symm (rj_bl rfl) rfl ?_
      refine rj_goto dX12_pleases_22 rfl ?_
      have e : bX12_pleases_4 μ a0 j4 s4 = (s4 + (fX12_wishOf μ (nI j4) a0)) := by unfold bX12_pleases_4; rfl
      exact rj_sub (l' := [(0, .ref (ω.2.2 395)), (1, .int a0), (2, .int (s4 + (fX12_wishOf μ (nI j4) a0))), (3, .int (nI (j4 + 1)))]) [2, 3, 1, 0] rfl (ih (j4 + 1) (s4 + (fX12_wishOf μ (nI j4) a0)) (by omega) (by rw [rj_fo_s, e] at K; exact K))
def fX12_pleases (μ : rj_M) (a0 : Int32) : Int32 := (rj_fo (bX12_pleases_4 μ a0) 12 0 0)
set_option maxHeartbeats 40000000 in
set_option maxRecDepth 100000 in
theorem sX12_pleases {g : rj_G} {ω : rj_W} (hω : rj_ok ω) (μ : rj_M) (a0 : Int32)  (hp_a0 : vp_in a0 16)  : rj_Sp g yX12_pleases wsX12_pleases (rj_rm 1 0) [.ref (ω.2.2 395), .int a0] ω μ (rj_D (.inl (some (.int (fX12_pleases μ a0)))) ω μ) := by
  refine rj_of' (cc := cX12_pleases) (nL := 4) (ret := (some .int)) (own := RX12) (l0 := [(0, .ref (ω.2.2 395)), (1, .int a0)]) rfl (by decide +kernel) rfl (Nat.le_of_ble_eq_true rfl) rfl ?_
  refine rj_iconst (v := 0) dX12_pleases_0 rfl (by decide) ?_
  refine rj_istore_n (l' := [(2, .int 0), (0, .ref (ω.2.2 395)), (1, .int a0)]) dX12_pleases_1 rfl (rj_bl rfl) rfl ?_
  refine rj_iconst (v := 0) dX12_pleases_2 rfl (by decide) ?_
  refine rj_istore_n (l' := [(3, .int 0), (2, .int 0), (0, .ref (ω.2.2 395)), (1, .int a0)]) dX12_pleases_3 rfl (rj_bl rfl) rfl ?_
  refine rj_sub (l' := [(0, .ref (ω.2.2 395)), (1, .int a0), (2, .int 0), (3, .int (nI 0))]) [2, 3, 1, 0] rfl ?_
  refine lX12_pleases_4 hω μ a0     hp_a0 12 0 0 rfl ?_
  refine rj_iload_n 2 dX12_pleases_25 rfl rfl ?_
  exact rj_iret dX12_pleases_26 rfl (Nat.le_of_ble_eq_true rfl) (Nat.le_of_ble_eq_true rfl) ⟨(by unfold fX12_pleases; rfl), rfl, rfl⟩
