theorem hSX12_helpers : yX12_helpers.cls ≠ "java/lang/invoke/MethodHandle" ∧ yX12_helpers.cls ≠ "java/lang/invoke/VarHandle" ∧ (parseMethodDescriptor yX12_helpers.desc).map (fun d => d.parameters.length) = some 1 := by decide +kernel
theorem hVX12_helpers : yX12_helpers.cls = RX12 ∧ yX12_helpers.cls ≠ "java/lang/invoke/MethodHandle" ∧ yX12_helpers.cls ≠ "java/lang/invoke/VarHandle" ∧ (parseMethodDescriptor yX12_helpers.desc).map (fun d => d.parameters.length) = some 1 := by decide +kernel
theorem vX12_helpers_12 : ∀ w ∈ u_ws RX12 TX12 16, w ∈ wsX12_helpers := by decide +kernel
theorem kX12_helpers_24 : Cond.fieldLink RX12 24 (TX12 9).1 (TX12 9).2.1 (TX12 9).2.2.1 ∈ wsX12_helpers := by decide +kernel
noncomputable def fX12_helpers (μ : rj_M) (a0 : Int32) : Int32 := (if a0 = (-1) then (fX12_helpersNow (mX12_lacksT μ)) else (if (fX12_isHour μ a0) = 0 then 0 else ((mX12_helpersNow (mX12_lacksT μ)).1 408 a0.toNatClampNeg)))
noncomputable def mX12_helpers (μ : rj_M) (a0 : Int32) : rj_M := (if a0 = (-1) then (mX12_helpersNow (mX12_lacksT μ)) else (if (fX12_isHour μ a0) = 0 then (mX12_lacksF μ) else (mX12_helpersNow (mX12_lacksT μ))))
noncomputable def qX12_helpers (μ : rj_M) (a0 : Int32) : Prop := (((a0 = (-1)) → (qX12_helpersNow (mX12_lacksT μ) ∧ True)) ∧ ((¬ (a0 = (-1))) → ((((fX12_isHour μ a0) = 0) → True) ∧ ((¬ ((fX12_isHour μ a0) = 0)) → (qX12_helpersNow (mX12_lacksT μ) ∧ True)))))
set_option maxHeartbeats 40000000 in
set_option maxRecDepth 100000 in
theorem sX12_helpers {g : rj_G} {ω : rj_W} (hω : rj_ok ω) (μ : rj_M) (a0 : Int32)   (hq : qX12_helpers μ a0) : rj_Sp g yX12_helpers wsX12_helpers (rj_rm 3 0) [.ref (ω.2.2 395), .int a0] ω μ (rj_D (.inl (some (.int (fX12_helpers μ a0)))) ω (mX12_helpers μ a0)) := by
  have hqa := hq
  unfold qX12_helpers at hqa
  refine rj_of' (cc := cX12_helpers) (nL := 3) (ret := (some .int)) (own := RX12) (l0 := [(0, .ref (ω.2.2 395)), (1, .int a0)]) rfl (by decide +kernel) rfl (Nat.le_of_ble_eq_true rfl) rfl ?_
  refine rj_aload_n 0 dX12_helpers_0 rfl rfl ?_
  refine rj_iload_n 1 dX12_helpers_1 rfl rfl ?_
  refine rj_iconst (v := (-1)) dX12_helpers_2 rfl (by decide) ?_
  refine rj_icmp_eq dX12_helpers_3 rfl rfl (fun h1 => ?_) (fun h1 => ?_)
  · have hq1 := (And.left hqa) h1
    refine rj_iconst (v := 1) dX12_helpers_13 rfl (by decide) ?_
    refine rj_goto dX12_helpers_14 rfl ?_
    refine rj_cV (rest := []) (sX12_lacksT (g := g) (ω := ω) hω μ   ) gX12_helpers_X12_lacks (rj_lt hω (k := 395) rfl) (rj_sh hω ly_395) rfl rfl hVX12_lacks ⟨Nat.le_of_ble_eq_true rfl, Nat.le_of_ble_eq_true rfl⟩ dX12_helpers_18 rfl rfl rfl (Nat.le_of_ble_eq_true rfl) rfl (Nat.le_of_ble_eq_true rfl) rfl ?_
    refine rj_if_eq dX12_helpers_21 rfl rfl (fun h2 => ?_) (fun h2 => ?_)
    · refine rj_aload_n 0 dX12_helpers_26 rfl rfl ?_
      refine rj_cV (rest := []) (sX12_helpersNow (g := g) (ω := ω) hω (mX12_lacksT μ)   (And.left hq1)) gX12_helpers_X12_helpersNow (rj_lt hω (k := 395) rfl) (rj_sh hω ly_395) rfl rfl hVX12_helpersNow ⟨Nat.le_of_ble_eq_true rfl, Nat.le_of_ble_eq_true rfl⟩ dX12_helpers_27 rfl rfl rfl (Nat.le_of_ble_eq_true rfl) rfl (Nat.le_of_ble_eq_true rfl) rfl ?_
      refine rj_istore_n (l' := [(2, .int (fX12_helpersNow (mX12_lacksT μ))), (0, .ref (ω.2.2 395)), (1, .int a0)]) dX12_helpers_30 rfl (rj_bl rfl) rfl ?_
      refine rj_iload_n 2 dX12_helpers_31 rfl rfl ?_
      refine rj_iconst (v := (-1)) dX12_helpers_32 rfl (by decide) ?_
      refine rj_icmp_ne dX12_helpers_33 rfl rfl (fun h3 => ?_) (fun h3 => ?_)
      · exact absurd h1 h3
      · refine rj_iload_n 0 dX12_helpers_36 rfl rfl ?_
        refine rj_goto dX12_helpers_37 rfl ?_
        exact rj_iret dX12_helpers_46 rfl (Nat.le_of_ble_eq_true rfl) (Nat.le_of_ble_eq_true rfl) ⟨(by unfold fX12_helpers; rw [if_pos h1]; try rfl), rfl, (by unfold mX12_helpers; rw [if_pos h1]; try rfl)⟩
    · exact absurd (by decide) h2
  · have hq2 := (And.right hqa) h1
    refine rj_iload_n 1 dX12_helpers_6 rfl rfl ?_
    refine rj_cS (rest := [.ref (ω.2.2 395)]) (sX12_isHour (g := g) (ω := ω) hω μ a0   ) gX12_helpers_X12_isHour rfl hSX12_isHour ⟨Nat.le_of_ble_eq_true rfl, Nat.le_of_ble_eq_true rfl⟩ dX12_helpers_7 rfl rfl rfl (Nat.le_of_ble_eq_true rfl) rfl (Nat.le_of_ble_eq_true rfl) rfl ?_
    refine rj_if_eq dX12_helpers_10 rfl rfl (fun h4 => ?_) (fun h4 => ?_)
    · skip
      refine rj_iconst (v := 0) dX12_helpers_17 rfl (by decide) ?_
      refine rj_cV (rest := []) (sX12_lacksF (g := g) (ω := ω) hω μ   ) gX12_helpers_X12_lacks (rj_lt hω (k := 395) rfl) (rj_sh hω ly_395) rfl rfl hVX12_lacks ⟨Nat.le_of_ble_eq_true rfl, Nat.le_of_ble_eq_true rfl⟩ dX12_helpers_18 rfl rfl rfl (Nat.le_of_ble_eq_true rfl) rfl (Nat.le_of_ble_eq_true rfl) rfl ?_
      refine rj_if_eq dX12_helpers_21 rfl rfl (fun h5 => ?_) (fun h5 => ?_)
      · exact absurd h5 (by decide)
      · refine rj_iconst (v := 0) dX12_helpers_24 rfl (by decide) ?_
        exact rj_iret dX12_helpers_25 rfl (Nat.le_of_ble_eq_true rfl) (Nat.le_of_ble_eq_true rfl) ⟨(by unfold fX12_helpers; rw [if_neg h1]; rw [if_pos h4]; try rfl), rfl, (by unfold mX12_helpers; rw [if_neg h1]; rw [if_pos h4]; try rfl)⟩
    · have hq4 := (And.right hq2) h4
      refine rj_iconst (v := 1) dX12_helpers_13 rfl (by decide) ?_
      refine rj_goto dX12_helpers_14 rfl ?_
      refine rj_cV (rest := []) (sX12_lacksT (g := g) (ω := ω) hω μ   ) gX12_helpers_X12_lacks (rj_lt hω (k := 395) rfl) (rj_sh hω ly_395) rfl rfl hVX12_lacks ⟨Nat.le_of_ble_eq_true rfl, Nat.le_of_ble_eq_true rfl⟩ dX12_helpers_18 rfl rfl rfl (Nat.le_of_ble_eq_true rfl) rfl (Nat.le_of_ble_eq_true rfl) rfl ?_
      refine rj_if_eq dX12_helpers_21 rfl rfl (fun h6 => ?_) (fun h6 => ?_)
      · refine rj_aload_n 0 dX12_helpers_26 rfl rfl ?_
        refine rj_cV (rest := []) (sX12_helpersNow (g := g) (ω := ω) hω (mX12_lacksT μ)   (And.left hq4)) gX12_helpers_X12_helpersNow (rj_lt hω (k := 395) rfl) (rj_sh hω ly_395) rfl rfl hVX12_helpersNow ⟨Nat.le_of_ble_eq_true rfl, Nat.le_of_ble_eq_true rfl⟩ dX12_helpers_27 rfl rfl rfl (Nat.le_of_ble_eq_true rfl) rfl (Nat.le_of_ble_eq_true rfl) rfl ?_
        refine rj_istore_n (l' := [(2, .int (fX12_helpersNow (mX12_lacksT μ))), (0, .ref (ω.2.2 395)), (1, .int a0)]) dX12_helpers_30 rfl (rj_bl rfl) rfl ?_
        refine rj_iload_n 2 dX12_helpers_31 rfl rfl ?_
        refine rj_iconst (v := (-1)) dX12_helpers_32 rfl (by decide) ?_
        refine rj_icmp_ne dX12_helpers_33 rfl rfl (fun h7 => ?_) (fun h7 => ?_)
        · refine rj_aload_n 1 dX12_helpers_40 rfl rfl ?_
          refine rj_getR (C0 := RX12) (T := TX12) (N := 16) (j := 9) (r := 408) dX12_helpers_41 rfl vX12_helpers_12 rfl (rj_lt hω (k := 395) rfl) (rj_sh hω ly_395) (by decide) kX12_helpers_24 rfl ?_
          refine rj_iload_n 2 dX12_helpers_44 rfl rfl ?_
          refine rj_iald dX12_helpers_45 rfl (rj_lt hω (k := 408) rfl) (rj_sh hω ly_408) (rj_isHour h4) ?_
          exact rj_iret dX12_helpers_46 rfl (Nat.le_of_ble_eq_true rfl) (Nat.le_of_ble_eq_true rfl) ⟨(by unfold fX12_helpers; rw [if_neg h1]; rw [if_neg h4]; try rfl), rfl, (by unfold mX12_helpers; rw [if_neg h1]; rw [if_neg h4]; try rfl)⟩
        · exact absurd h7 h1
      · exact absurd (by decide) h6
theorem hSX12_triesProofs : yX12_triesProofs.cls ≠ "java/lang/invoke/MethodHandle" ∧ yX12_triesProofs.cls ≠ "java/lang/invoke/VarHandle" ∧ (parseMethodDescriptor yX12_triesProofs.desc).map (fun d => d.parameters.length) = some 4 := by decide +kernel
theorem hVX12_triesProofs : yX12_triesProofs.cls = RX12 ∧ yX12_triesProofs.cls ≠ "java/lang/invoke/MethodHandle" ∧ yX12_triesProofs.cls ≠ "java/lang/invoke/VarHandle" ∧ (parseMethodDescriptor yX12_triesProofs.desc).map (fun d => d.parameters.length) = some 4 := by decide +kernel
theorem vX12_triesProofs_12 : ∀ w ∈ u_ws RX12 TX12 16, w ∈ wsX12_triesProofs := by decide +kernel
theorem kX12_triesProofs_9 : Cond.fieldLink RX12 9 (TX12 1).1 (TX12 1).2.1 (TX12 1).2.2.1 ∈ wsX12_triesProofs := by decide +kernel
theorem kX12_triesProofs_124 : Cond.fieldLink RX12 124 (TX12 5).1 (TX12 5).2.1 (TX12 5).2.2.1 ∈ wsX12_triesProofs := by decide +kernel
theorem kX12_triesProofs_127 : Cond.fieldLink RX12 127 (TX12 4).1 (TX12 4).2.1 (TX12 4).2.2.1 ∈ wsX12_triesProofs := by decide +kernel
noncomputable def mX12_triesProofs : Nat → rj_M → Int32 → Int32 → Int32 → Int32 → rj_M
  | 0, μ, _, _, _, _ => μ
  | n + 1, μ, a0, a1, a2, a3 => (if a0 = 24 then (if (μ.1 395 5) < a3 then (rj_pi (rj_pi μ 395 5 a3) 395 4 a2) else μ) else (if (μ.1 396 (387 + a0).toNatClampNeg) ≤ 0 then (mX12_triesProofs n μ (a0 + 1) a1 a2 a3) else (if a1 = (-1) then (mX12_triesProofs n (mX12_triesProofs n μ (a0 + 1) a0 (a2 ||| (1 <<< (a0 &&& 31))) (a3 + (μ.1 396 (387 + a0).toNatClampNeg))) (a0 + 1) a1 a2 a3) else (if (a0 - a1) < (μ.1 396 (411 : Int32).toNatClampNeg) then (mX12_triesProofs n μ (a0 + 1) a1 a2 a3) else (mX12_triesProofs n (mX12_triesProofs n μ (a0 + 1) a0 (a2 ||| (1 <<< (a0 &&& 31))) (a3 + (μ.1 396 (387 + a0).toNatClampNeg))) (a0 + 1) a1 a2 a3)))))
theorem mX12_triesProofs_s (n : Nat) (μ : rj_M) (a0 : Int32) (a1 : Int32) (a2 : Int32) (a3 : Int32) : mX12_triesProofs (n + 1) μ a0 a1 a2 a3 = (if a0 = 24 then (if (μ.1 395 5) < a3 then (rj_pi (rj_pi μ 395 5 a3) 395 4 a2) else μ) else (if (μ.1 396 (387 + a0).toNatClampNeg) ≤ 0 then (mX12_triesProofs n μ (a0 + 1) a1 a2 a3) else (if a1 = (-1) then (mX12_triesProofs n (mX12_triesProofs n μ (a0 + 1) a0 (a2 ||| (1 <<< (a0 &&& 31))) (a3 + (μ.1 396 (387 + a0).toNatClampNeg))) (a0 + 1) a1 a2 a3) else (if (a0 - a1) < (μ.1 396 (411 : Int32).toNatClampNeg) then (mX12_triesProofs n μ (a0 + 1) a1 a2 a3) else (mX12_triesProofs n (mX12_triesProofs n μ (a0 + 1) a0 (a2 ||| (1 <<< (a0 &&& 31))) (a3 + (μ.1 396 (387 + a0).toNatClampNeg))) (a0 + 1) a1 a2 a3))))) := rfl
noncomputable def qX12_triesProofs : Nat → rj_M → Int32 → Int32 → Int32 → Int32 → Prop
  | 0, _, _, _, _, _ => False
  | n + 1, μ, a0, a1, a2, a3 => (((a0 = 24) → True) ∧ ((¬ (a0 = 24)) → ((((μ.1 396 (387 + a0).toNatClampNeg) ≤ 0) → (qX12_triesProofs n μ (a0 + 1) a1 a2 a3 ∧ True)) ∧ ((¬ ((μ.1 396 (387 + a0).toNatClampNeg) ≤ 0)) → (((a1 = (-1)) → (qX12_triesProofs n μ (a0 + 1) a0 (a2 ||| (1 <<< (a0 &&& 31))) (a3 + (μ.1 396 (387 + a0).toNatClampNeg)) ∧ qX12_triesProofs n (mX12_triesProofs n μ (a0 + 1) a0 (a2 ||| (1 <<< (a0 &&& 31))) (a3 + (μ.1 396 (387 + a0).toNatClampNeg))) (a0 + 1) a1 a2 a3 ∧ True)) ∧ ((¬ (a1 = (-1))) → ((((a0 - a1) < (μ.1 396 (411 : Int32).toNatClampNeg)) → (qX12_triesProofs n μ (a0 + 1) a1 a2 a3 ∧ True)) ∧ ((¬ ((a0 - a1) < (μ.1 396 (411 : Int32).toNatClampNeg))) → (qX12_triesProofs n μ (a0 + 1) a0 (a2 ||| (1 <<< (a0 &&& 31))) (a3 + (μ.1 396 (387 + a0).toNatClampNeg)) ∧ qX12_triesProofs n (mX12_triesProofs n μ (a0 + 1) a0 (a2 ||| (1 <<< (a0 &&& 31))) (a3 + (μ.1 396 (387 + a0).toNatClampNeg))) (a0 + 1) a1 a2 a3 ∧ True)))))))))
theorem qX12_triesProofs_s (n : Nat) (μ : rj_M) (a0 : Int32) (a1 : Int32) (a2 : Int32) (a3 : Int32) : qX12_triesProofs (n + 1) μ a0 a1 a2 a3 = (((a0 = 24) → True) ∧ ((¬ (a0 = 24)) → ((((μ.1 396 (387 + a0).toNatClampNeg) ≤ 0) → (qX12_triesProofs n μ (a0 + 1) a1 a2 a3 ∧ True)) ∧ ((¬ ((μ.1 396 (387 + a0).toNatClampNeg) ≤ 0)) → (((a1 = (-1)) → (qX12_triesProofs n μ (a0 + 1) a0 (a2 ||| (1 <<< (a0 &&& 31))) (a3 + (μ.1 396 (387 + a0).toNatClampNeg)) ∧ qX12_triesProofs n (mX12_triesProofs n μ (a0 + 1) a0 (a2 ||| (1 <<< (a0 &&& 31))) (a3 + (μ.1 396 (387 + a0).toNatClampNeg))) (a0 + 1) a1 a2 a3 ∧ True)) ∧ ((¬ (a1 = (-1))) → ((((a0 - a1) < (μ.1 396 (411 : Int32).toNatClampNeg)) → (qX12_triesProofs n μ (a0 + 1) a1 a2 a3 ∧ True)) ∧ ((¬ ((a0 - a1) < (μ.1 396 (411 : Int32).toNatClampNeg))) → (qX12_triesProofs n μ (a0 + 1) a0 (a2 ||| (1 <<< (a0 &&& 31))) (a3 + (μ.1 396 (387 + a0).toNatClampNeg)) ∧ qX12_triesProofs n (mX12_triesProofs n μ (a0 + 1) a0 (a2 ||| (1 <<< (a0 &&& 31))) (a3 + (μ.1 396 (387 + a0).toNatClampNeg))) (a0 + 1) a1 a2 a3 ∧ True))))))))) := rfl
set_option maxHeartbeats 40000000 in
set_option maxRecDepth 100000 in
theorem sX12_triesProofs {g : rj_G} {ω : rj_W} (hω : rj_ok ω) : ∀ (n : Nat) (μ : rj_M) (a0 : Int32) (a1 : Int32) (a2 : Int32) (a3 : Int32), vp_in a0 25 → qX12_triesProofs n μ a0 a1 a2 a3 → rj_Sp g yX12_triesProofs wsX12_triesProofs (rj_rm (1 + n) 0) [.ref (ω.2.2 395), .int a0, .int a1, .int a2, .int a3] ω μ (rj_D (.inl none) ω (mX12_triesProofs n μ a0 a1 a2 a3)) := by
  intro n
  induction n with
  | zero =>
    intro μ a0 a1 a2 a3 hp_a0 hq
    exact hq.elim
  | succ n ih =>
    intro μ a0 a1 a2 a3 hp_a0 hq
    have hqa := hq
    rw [qX12_triesProofs_s] at hqa
    refine rj_of' (cc := cX12_triesProofs) (nL := 5) (ret := none) (own := RX12) (l0 := [(0, .ref (ω.2.2 395)), (1, .int a0), (2, .int a1), (3, .int a2), (4, .int a3)]) rfl (by decide +kernel) rfl (Nat.le_of_ble_eq_true rfl) rfl ?_
    refine rj_iload_n 1 dX12_triesProofs_0 rfl rfl ?_
    refine rj_bipush (v := 24) dX12_triesProofs_1 rfl (by decide) ?_
    refine rj_icmp_ne dX12_triesProofs_3 rfl rfl (fun h1 => ?_) (fun h1 => ?_)
    · have hq1 := (And.right hqa) h1
      refine rj_aload_n 0 dX12_triesProofs_28 rfl rfl ?_
      refine rj_getR (C0 := RX12) (T := TX12) (N := 16) (j := 1) (r := 396) dX12_triesProofs_29 rfl vX12_triesProofs_12 rfl (rj_lt hω (k := 395) rfl) (rj_sh hω ly_395) (by decide) kX12_triesProofs_9 rfl ?_
      refine rj_sipush (v := 387) dX12_triesProofs_32 rfl (by decide) ?_
      refine rj_iload_n 1 dX12_triesProofs_35 rfl rfl ?_
      refine rj_iadd dX12_triesProofs_36 rfl ?_
      refine rj_iald dX12_triesProofs_37 rfl (rj_lt hω (k := 396) rfl) (rj_sh hω ly_396) (rj_vle (rj_vadd (N := 411) (vp_in_nI (n := 387) (N := 388) (rj_bl rfl) (rj_bl rfl)) (rj_lt25 hp_a0 h1) rfl rfl) rfl) ?_
      refine rj_if_le dX12_triesProofs_38 rfl rfl (fun h2 => ?_) (fun h2 => ?_)
      · have hq2 := (And.left hq1) h2
        refine rj_aload_n 0 dX12_triesProofs_86 rfl rfl ?_
        refine rj_iload_n 1 dX12_triesProofs_87 rfl rfl ?_
        refine rj_iconst (v := 1) dX12_triesProofs_88 rfl (by decide) ?_
        refine rj_iadd dX12_triesProofs_89 rfl ?_
        refine rj_iload_n 2 dX12_triesProofs_90 rfl rfl ?_
        refine rj_iload_n 3 dX12_triesProofs_91 rfl rfl ?_
        refine rj_iload 4 dX12_triesProofs_92 rfl rfl ?_
        refine rj_cV (rest := []) (ih μ (a0 + 1) a1 a2 a3 (rj_vle (rj_vadd (N := 25) (rj_lt25 hp_a0 h1) (vp_in_nI (n := 1) (N := 2) (rj_bl rfl) (rj_bl rfl)) rfl rfl) rfl) (And.left hq2)) gX12_triesProofs_X12_triesProofs (rj_lt hω (k := 395) rfl) (rj_sh hω ly_395) rfl rfl hVX12_triesProofs ⟨by omega, by omega⟩ dX12_triesProofs_94 rfl rfl rfl (Nat.le_of_ble_eq_true rfl) rfl (Nat.le_of_ble_eq_true rfl) rfl ?_
        exact rj_vret dX12_triesProofs_97 rfl (Nat.le_of_ble_eq_true rfl) (Nat.le_of_ble_eq_true rfl) ⟨rfl, rfl, (by rw [mX12_triesProofs_s]; rw [if_neg h1]; rw [if_pos h2]; try rfl)⟩
      · have hq3 := (And.right hq1) h2
        refine rj_iload_n 2 dX12_triesProofs_41 rfl rfl ?_
        refine rj_iconst (v := (-1)) dX12_triesProofs_42 rfl (by decide) ?_
        refine rj_icmp_eq dX12_triesProofs_43 rfl rfl (fun h3 => ?_) (fun h3 => ?_)
        · have hq4 := (And.left hq3) h3
          refine rj_aload_n 0 dX12_triesProofs_60 rfl rfl ?_
          refine rj_iload_n 1 dX12_triesProofs_61 rfl rfl ?_
          refine rj_iconst (v := 1) dX12_triesProofs_62 rfl (by decide) ?_
          refine rj_iadd dX12_triesProofs_63 rfl ?_
          refine rj_iload_n 1 dX12_triesProofs_64 rfl rfl ?_
          refine rj_iload_n 3 dX12_triesProofs_65 rfl rfl ?_
          refine rj_iconst (v := 1) dX12_triesProofs_66 rfl (by decide) ?_
          refine rj_iload_n 1 dX12_triesProofs_67 rfl rfl ?_
          refine rj_ishl dX12_triesProofs_68 rfl ?_
          refine rj_ior dX12_triesProofs_69 rfl ?_
          refine rj_iload 4 dX12_triesProofs_70 rfl rfl ?_
          refine rj_aload_n 0 dX12_triesProofs_72 rfl rfl ?_
          refine rj_getR (C0 := RX12) (T := TX12) (N := 16) (j := 1) (r := 396) dX12_triesProofs_73 rfl vX12_triesProofs_12 rfl (rj_lt hω (k := 395) rfl) (rj_sh hω ly_395) (by decide) kX12_triesProofs_9 rfl ?_
          refine rj_sipush (v := 387) dX12_triesProofs_76 rfl (by decide) ?_
          refine rj_iload_n 1 dX12_triesProofs_79 rfl rfl ?_
          refine rj_iadd dX12_triesProofs_80 rfl ?_
          refine rj_iald dX12_triesProofs_81 rfl (rj_lt hω (k := 396) rfl) (rj_sh hω ly_396) (rj_vle (rj_vadd (N := 411) (vp_in_nI (n := 387) (N := 388) (rj_bl rfl) (rj_bl rfl)) (rj_lt25 hp_a0 h1) rfl rfl) rfl) ?_
          refine rj_iadd dX12_triesProofs_82 rfl ?_
          refine rj_cV (rest := []) (ih μ (a0 + 1) a0 (a2 ||| (1 <<< (a0 &&& 31))) (a3 + (μ.1 396 (387 + a0).toNatClampNeg)) (rj_vle (rj_vadd (N := 25) (rj_lt25 hp_a0 h1) (vp_in_nI (n := 1) (N := 2) (rj_bl rfl) (rj_bl rfl)) rfl rfl) rfl) (And.left hq4)) gX12_triesProofs_X12_triesProofs (rj_lt hω (k := 395) rfl) (rj_sh hω ly_395) rfl rfl hVX12_triesProofs ⟨by omega, by omega⟩ dX12_triesProofs_83 rfl rfl rfl (Nat.le_of_ble_eq_true rfl) rfl (Nat.le_of_ble_eq_true rfl) rfl ?_
          refine rj_aload_n 0 dX12_triesProofs_86 rfl rfl ?_
          refine rj_iload_n 1 dX12_triesProofs_87 rfl rfl ?_
          refine rj_iconst (v := 1) dX12_triesProofs_88 rfl (by decide) ?_
          refine rj_iadd dX12_triesProofs_89 rfl ?_
          refine rj_iload_n 2 dX12_triesProofs_90 rfl rfl ?_
          refine rj_iload_n 3 dX12_triesProofs_91 rfl rfl ?_
          refine rj_iload 4 dX12_triesProofs_92 rfl rfl ?_
          refine rj_cV (rest := []) (ih (mX12_triesProofs n μ (a0 + 1) a0 (a2 ||| (1 <<< (a0 &&& 31))) (a3 + (μ.1 396 (387 + a0).toNatClampNeg))) (a0 + 1) a1 a2 a3 (rj_vle (rj_vadd (N := 25) (rj_lt25 hp_a0 h1) (vp_in_nI (n := 1) (N := 2) (rj_bl rfl) (rj_bl rfl)) rfl rfl) rfl) (And.left (And.right hq4))) gX12_triesProofs_X12_triesProofs (rj_lt hω (k := 395) rfl) (rj_sh hω ly_395) rfl rfl hVX12_triesProofs ⟨by omega, by omega⟩ dX12_triesProofs_94 rfl rfl rfl (Nat.le_of_ble_eq_true rfl) rfl (Nat.le_of_ble_eq_true rfl) rfl ?_
          exact rj_vret dX12_triesProofs_97 rfl (Nat.le_of_ble_eq_true rfl) (Nat.le_of_ble_eq_true rfl) ⟨rfl, rfl, (by rw [mX12_triesProofs_s]; rw [if_neg h1]; rw [if_neg h2]; rw [if_pos h3]; try rfl)⟩
        · have hq5 := (And.right hq3) h3
          refine rj_iload_n 1 dX12_triesProofs_46 rfl rfl ?_
          refine rj_iload_n 2 dX12_triesProofs_47 rfl rfl ?_
          refine rj_isub dX12_triesProofs_48 rfl ?_
          refine rj_aload_n 0 dX12_triesProofs_49 rfl rfl ?_
          refine rj_getR (C0 := RX12) (T := TX12) (N := 16) (j := 1) (r := 396) dX12_triesProofs_50 rfl vX12_triesProofs_12 rfl (rj_lt hω (k := 395) rfl) (rj_sh hω ly_395) (by decide) kX12_triesProofs_9 rfl ?_
          refine rj_sipush (v := 411) dX12_triesProofs_53 rfl (by decide) ?_
          refine rj_iald dX12_triesProofs_56 rfl (rj_lt hω (k := 396) rfl) (rj_sh hω ly_396) (vp_in_nI (n := 411) (rj_bl rfl) (rj_bl rfl)) ?_
          refine rj_icmp_lt dX12_triesProofs_57 rfl rfl (fun h4 => ?_) (fun h4 => ?_)
          · have hq6 := (And.left hq5) h4
            refine rj_aload_n 0 dX12_triesProofs_86 rfl rfl ?_
            refine rj_iload_n 1 dX12_triesProofs_87 rfl rfl ?_
            refine rj_iconst (v := 1) dX12_triesProofs_88 rfl (by decide) ?_
            refine rj_iadd dX12_triesProofs_89 rfl ?_
            refine rj_iload_n 2 dX12_triesProofs_90 rfl rfl ?_
            refine rj_iload_n 3 dX12_triesProofs_91 rfl rfl ?_
            refine rj_iload 4 dX12_triesProofs_92 rfl rfl ?_
            refine rj_cV (rest := []) (ih μ (a0 + 1) a1 a2 a3 (rj_vle (rj_vadd (N := 25) (rj_lt25 hp_a0 h1) (vp_in_nI (n := 1) (N := 2) (rj_bl rfl) (rj_bl rfl)) rfl rfl) rfl) (And.left hq6)) gX12_triesProofs_X12_triesProofs (rj_lt hω (k := 395) rfl) (rj_sh hω ly_395) rfl rfl hVX12_triesProofs ⟨by omega, by omega⟩ dX12_triesProofs_94 rfl rfl rfl (Nat.le_of_ble_eq_true rfl) rfl (Nat.le_of_ble_eq_true rfl) rfl ?_
            exact rj_vret dX12_triesProofs_97 rfl (Nat.le_of_ble_eq_true rfl) (Nat.le_of_ble_eq_true rfl) ⟨rfl, rfl, (by rw [mX12_triesProofs_s]; rw [if_neg h1]; rw [if_neg h2]; rw [if_neg h3]; rw [if_pos h4]; try rfl)⟩
          · have hq7 := (And.right hq5) h4
            refine rj_aload_n 0 dX12_triesProofs_60 rfl rfl ?_
            refine rj_iload_n 1 dX12_triesProofs_61 rfl rfl ?_
            refine rj_iconst (v := 1) dX12_triesProofs_62 rfl (by decide) ?_
            refine rj_iadd dX12_triesProofs_63 rfl ?_
            refine rj_iload_n 1 dX12_triesProofs_64 rfl rfl ?_
            refine rj_iload_n 3 dX12_triesProofs_65 rfl rfl ?_
            refine rj_iconst (v := 1) dX12_triesProofs_66 rfl (by decide) ?_
            refine rj_iload_n 1 dX12_triesProofs_67 rfl rfl ?_
            refine rj_ishl dX12_triesProofs_68 rfl ?_
            refine rj_ior dX12_triesProofs_69 rfl ?_
            refine rj_iload 4 dX12_triesProofs_70 rfl rfl ?_
            refine rj_aload_n 0 dX12_triesProofs_72 rfl rfl ?_
            refine rj_getR (C0 := RX12) (T := TX12) (N := 16) (j := 1) (r := 396) dX12_triesProofs_73 rfl vX12_triesProofs_12 rfl (rj_lt hω (k := 395) rfl) (rj_sh hω ly_395) (by decide) kX12_triesProofs_9 rfl ?_
            refine rj_sipush (v := 387) dX12_triesProofs_76 rfl (by decide) ?_
            refine rj_iload_n 1 dX12_triesProofs_79 rfl rfl ?_
            refine rj_iadd dX12_triesProofs_80 rfl ?_
            refine rj_iald dX12_triesProofs_81 rfl (rj_lt hω (k := 396) rfl) (rj_sh hω ly_396) (rj_vle (rj_vadd (N := 411) (vp_in_nI (n := 387) (N := 388) (rj_bl rfl) (rj_bl rfl)) (rj_lt25 hp_a0 h1) rfl rfl) rfl) ?_
            refine rj_iadd dX12_triesProofs_82 rfl ?_
            refine rj_cV (rest := []) (ih μ (a0 + 1) a0 (a2 ||| (1 <<< (a0 &&& 31))) (a3 + (μ.1 396 (387 + a0).toNatClampNeg)) (rj_vle (rj_vadd (N := 25) (rj_lt25 hp_a0 h1) (vp_in_nI (n := 1) (N := 2) (rj_bl rfl) (rj_bl rfl)) rfl rfl) rfl) (And.left hq7)) gX12_triesProofs_X12_triesProofs (rj_lt hω (k := 395) rfl) (rj_sh hω ly_395) rfl rfl hVX12_triesProofs ⟨by omega, by omega⟩ dX12_triesProofs_83 rfl rfl rfl (Nat.le_of_ble_eq_true rfl) rfl (Nat.le_of_ble_eq_true rfl) rfl ?_
            refine rj_aload_n 0 dX12_triesProofs_86 rfl rfl ?_
            refine rj_iload_n 1 dX12_triesProofs_87 rfl rfl ?_
            refine rj_iconst (v := 1) dX12_triesProofs_88 rfl (by decide) ?_
            refine rj_iadd dX12_triesProofs_89 rfl ?_
            refine rj_iload_n 2 dX12_triesProofs_90 rfl rfl ?_
            refine rj_iload_n 3 dX12_triesProofs_91 rfl rfl ?_
            refine rj_iload 4 dX12_triesProofs_92 rfl rfl ?_
            refine rj_cV (rest := []) (ih (mX12_triesProofs n μ (a0 + 1) a0 (a2 ||| (1 <<< (a0 &&& 31))) (a3 + (μ.1 396 (387 + a0).toNatClampNeg))) (a0 + 1) a1 a2 a3 (rj_vle (rj_vadd (N := 25) (rj_lt25 hp_a0 h1) (vp_in_nI (n := 1) (N := 2) (rj_bl rfl) (rj_bl rfl)) rfl rfl) rfl) (And.left (And.right hq7))) gX12_triesProofs_X12_triesProofs (rj_lt hω (k := 395) rfl) (rj_sh hω ly_395) rfl rfl hVX12_triesProofs ⟨by omega, by omega⟩ dX12_triesProofs_94 rfl rfl rfl (Nat.le_of_ble_eq_true rfl) rfl (Nat.le_of_ble_eq_true rfl) rfl ?_
            exact rj_vret dX12_triesProofs_97 rfl (Nat.le_of_ble_eq_true rfl) (Nat.le_of_ble_eq_true rfl) ⟨rfl, rfl, (by rw [mX12_triesProofs_s]; rw [if_neg h1]; rw [if_neg h2]; rw [if_neg h3]; rw [if_neg h4]; try rfl)⟩
    · skip
      refine rj_iload 4 dX12_triesProofs_6 rfl rfl ?_
      refine rj_aload_n 0 dX12_triesProofs_8 rfl rfl ?_
      refine rj_getI (C0 := RX12) (T := TX12) (N := 16) (j := 5) dX12_triesProofs_9 rfl vX12_triesProofs_12 rfl (rj_lt hω (k := 395) rfl) (rj_sh hω ly_395) (by decide) kX12_triesProofs_124 rfl ?_
      refine rj_icmp_gt dX12_triesProofs_12 rfl rfl (fun h5 => ?_) (fun h5 => ?_)
      · skip
        refine rj_aload_n 0 dX12_triesProofs_16 rfl rfl ?_
        refine rj_iload 4 dX12_triesProofs_17 rfl rfl ?_
        refine rj_putI (C0 := RX12) (T := TX12) (N := 16) (j := 5) dX12_triesProofs_19 rfl vX12_triesProofs_12 rfl (rj_lt hω (k := 395) rfl) (rj_sh hω ly_395) (by decide) kX12_triesProofs_124 tyX12 tyX12_ok nmX12 rfl rfl rfl rfl ?_
        refine rj_aload_n 0 dX12_triesProofs_22 rfl rfl ?_
        refine rj_iload_n 3 dX12_triesProofs_23 rfl rfl ?_
        refine rj_putI (C0 := RX12) (T := TX12) (N := 16) (j := 4) dX12_triesProofs_24 rfl vX12_triesProofs_12 rfl (rj_lt hω (k := 395) rfl) (rj_sh hω ly_395) (by decide) kX12_triesProofs_127 tyX12 tyX12_ok nmX12 rfl rfl rfl rfl ?_
        exact rj_vret dX12_triesProofs_27 rfl (Nat.le_of_ble_eq_true rfl) (Nat.le_of_ble_eq_true rfl) ⟨rfl, rfl, (by rw [mX12_triesProofs_s]; rw [if_pos h1]; rw [if_pos h5]; try rfl)⟩
      · skip
        exact rj_vret dX12_triesProofs_15 rfl (Nat.le_of_ble_eq_true rfl) (Nat.le_of_ble_eq_true rfl) ⟨rfl, rfl, (by rw [mX12_triesProofs_s]; rw [if_pos h1]; rw [if_neg h5]; try rfl)⟩
theorem sX12_triesProofsF {g : rj_G} {ω : rj_W} (hω : rj_ok ω) (μ : rj_M) (a0 : Int32) (a1 : Int32) (a2 : Int32) (a3 : Int32) (hp_a0 : vp_in a0 25) (hq : qX12_triesProofs rz25 μ a0 a1 a2 a3) : rj_Sp g yX12_triesProofs wsX12_triesProofs (rj_rm 26 0) [.ref (ω.2.2 395), .int a0, .int a1, .int a2, .int a3] ω μ (rj_D (.inl none) ω (mX12_triesProofs rz25 μ a0 a1 a2 a3)) := by
  have h := sX12_triesProofs (g := g) (ω := ω) hω rz25 μ a0 a1 a2 a3 hp_a0 hq
  rw [show 1 + rz25 = 26 from by rw [rz25_eq]] at h
  exact h
