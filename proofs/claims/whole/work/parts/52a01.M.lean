theorem hSX12_setCrowd : yX12_setCrowd.cls ≠ "java/lang/invoke/MethodHandle" ∧ yX12_setCrowd.cls ≠ "java/lang/invoke/VarHandle" ∧ (parseMethodDescriptor yX12_setCrowd.desc).map (fun d => d.parameters.length) = some 2 := by decide +kernel
theorem hVX12_setCrowd : yX12_setCrowd.cls = RX12 ∧ yX12_setCrowd.cls ≠ "java/lang/invoke/MethodHandle" ∧ yX12_setCrowd.cls ≠ "java/lang/invoke/VarHandle" ∧ (parseMethodDescriptor yX12_setCrowd.desc).map (fun d => d.parameters.length) = some 2 := by decide +kernel
noncomputable def fX12_setCrowd (μ : rj_M) (a0 : Int32) (a1 : Int32) : Int32 := (if (fX12_lacks μ (fX12_isStage μ a0)) = 0 then (if (fX12_no (mX12_lacks μ (fX12_isStage μ a0)) (fX12_in (mX12_lacks μ (fX12_isStage μ a0)) a1 0 2000) 2) = 0 then (fX12_sets (mX12_no (mX12_lacks μ (fX12_isStage μ a0)) (fX12_in (mX12_lacks μ (fX12_isStage μ a0)) a1 0 2000) 2) (326 + a0) a1) else 0) else 0)
noncomputable def mX12_setCrowd (μ : rj_M) (a0 : Int32) (a1 : Int32) : rj_M := (if (fX12_lacks μ (fX12_isStage μ a0)) = 0 then (if (fX12_no (mX12_lacks μ (fX12_isStage μ a0)) (fX12_in (mX12_lacks μ (fX12_isStage μ a0)) a1 0 2000) 2) = 0 then (mX12_sets (mX12_no (mX12_lacks μ (fX12_isStage μ a0)) (fX12_in (mX12_lacks μ (fX12_isStage μ a0)) a1 0 2000) 2) (326 + a0) a1) else (mX12_no (mX12_lacks μ (fX12_isStage μ a0)) (fX12_in (mX12_lacks μ (fX12_isStage μ a0)) a1 0 2000) 2)) else (mX12_lacks μ (fX12_isStage μ a0)))
noncomputable def qX12_setCrowd (μ : rj_M) (a0 : Int32) (a1 : Int32) : Prop := ((((fX12_lacks μ (fX12_isStage μ a0)) = 0) → ((((fX12_no (mX12_lacks μ (fX12_isStage μ a0)) (fX12_in (mX12_lacks μ (fX12_isStage μ a0)) a1 0 2000) 2) = 0) → (vp_in (326 + a0) 625 ∧ qX12_sets (mX12_no (mX12_lacks μ (fX12_isStage μ a0)) (fX12_in (mX12_lacks μ (fX12_isStage μ a0)) a1 0 2000) 2) (326 + a0) a1 ∧ True)) ∧ ((¬ ((fX12_no (mX12_lacks μ (fX12_isStage μ a0)) (fX12_in (mX12_lacks μ (fX12_isStage μ a0)) a1 0 2000) 2) = 0)) → True))) ∧ ((¬ ((fX12_lacks μ (fX12_isStage μ a0)) = 0)) → True))
set_option maxHeartbeats 40000000 in
set_option maxRecDepth 100000 in
theorem sX12_setCrowd {g : rj_G} {ω : rj_W} (hω : rj_ok ω) (μ : rj_M) (a0 : Int32) (a1 : Int32)   (hq : qX12_setCrowd μ a0 a1) : rj_Sp g yX12_setCrowd wsX12_setCrowd (rj_rm 3 0) [.ref (ω.2.2 395), .int a0, .int a1] ω μ (rj_D (.inl (some (.int (fX12_setCrowd μ a0 a1)))) ω (mX12_setCrowd μ a0 a1)) := by
  have hqa := hq
  unfold qX12_setCrowd at hqa
  refine rj_of' (cc := cX12_setCrowd) (nL := 3) (ret := (some .int)) (own := RX12) (l0 := [(0, .ref (ω.2.2 395)), (1, .int a0), (2, .int a1)]) rfl (by decide +kernel) rfl (Nat.le_of_ble_eq_true rfl) rfl ?_
  refine rj_aload_n 0 dX12_setCrowd_0 rfl rfl ?_
  refine rj_iload_n 1 dX12_setCrowd_1 rfl rfl ?_
  refine rj_cS (rest := [.ref (ω.2.2 395)]) (sX12_isStage (g := g) (ω := ω) hω μ a0   ) gX12_setCrowd_X12_isStage rfl hSX12_isStage ⟨Nat.le_of_ble_eq_true rfl, Nat.le_of_ble_eq_true rfl⟩ dX12_setCrowd_2 rfl rfl rfl (Nat.le_of_ble_eq_true rfl) rfl (Nat.le_of_ble_eq_true rfl) rfl ?_
  refine rj_cV (rest := []) (sX12_lacks (g := g) (ω := ω) hω μ (fX12_isStage μ a0)   ) gX12_setCrowd_X12_lacks (rj_lt hω (k := 395) rfl) (rj_sh hω ly_395) rfl rfl hVX12_lacks ⟨Nat.le_of_ble_eq_true rfl, Nat.le_of_ble_eq_true rfl⟩ dX12_setCrowd_5 rfl rfl rfl (Nat.le_of_ble_eq_true rfl) rfl (Nat.le_of_ble_eq_true rfl) rfl ?_
  refine rj_if_ne dX12_setCrowd_8 rfl rfl (fun h1 => ?_) (fun h1 => ?_)
  · skip
    refine rj_iconst (v := 0) dX12_setCrowd_27 rfl (by decide) ?_
    refine rj_goto dX12_setCrowd_28 rfl ?_
    exact rj_iret dX12_setCrowd_41 rfl (Nat.le_of_ble_eq_true rfl) (Nat.le_of_ble_eq_true rfl) ⟨(by unfold fX12_setCrowd; rw [if_neg h1]; try rfl), rfl, (by unfold mX12_setCrowd; rw [if_neg h1]; try rfl)⟩
  · have hq2 := (And.left hqa) h1
    refine rj_aload_n 0 dX12_setCrowd_11 rfl rfl ?_
    refine rj_iload_n 2 dX12_setCrowd_12 rfl rfl ?_
    refine rj_iconst (v := 0) dX12_setCrowd_13 rfl (by decide) ?_
    refine rj_sipush (v := 2000) dX12_setCrowd_14 rfl (by decide) ?_
    refine rj_cS (rest := [.ref (ω.2.2 395)]) (sX12_in (g := g) (ω := ω) hω (mX12_lacks μ (fX12_isStage μ a0)) a1 0 2000   ) gX12_setCrowd_X12_in rfl hSX12_in ⟨Nat.le_of_ble_eq_true rfl, Nat.le_of_ble_eq_true rfl⟩ dX12_setCrowd_17 rfl rfl rfl (Nat.le_of_ble_eq_true rfl) rfl (Nat.le_of_ble_eq_true rfl) rfl ?_
    refine rj_iconst (v := 2) dX12_setCrowd_20 rfl (by decide) ?_
    refine rj_cV (rest := []) (sX12_no (g := g) (ω := ω) hω (mX12_lacks μ (fX12_isStage μ a0)) (fX12_in (mX12_lacks μ (fX12_isStage μ a0)) a1 0 2000) 2   ) gX12_setCrowd_X12_no (rj_lt hω (k := 395) rfl) (rj_sh hω ly_395) rfl rfl hVX12_no ⟨Nat.le_of_ble_eq_true rfl, Nat.le_of_ble_eq_true rfl⟩ dX12_setCrowd_21 rfl rfl rfl (Nat.le_of_ble_eq_true rfl) rfl (Nat.le_of_ble_eq_true rfl) rfl ?_
    refine rj_if_eq dX12_setCrowd_24 rfl rfl (fun h2 => ?_) (fun h2 => ?_)
    · have hq3 := (And.left hq2) h2
      refine rj_aload_n 0 dX12_setCrowd_31 rfl rfl ?_
      refine rj_sipush (v := 326) dX12_setCrowd_32 rfl (by decide) ?_
      refine rj_iload_n 1 dX12_setCrowd_35 rfl rfl ?_
      refine rj_iadd dX12_setCrowd_36 rfl ?_
      refine rj_iload_n 2 dX12_setCrowd_37 rfl rfl ?_
      refine rj_cV (rest := []) (sX12_sets (g := g) (ω := ω) hω (mX12_no (mX12_lacks μ (fX12_isStage μ a0)) (fX12_in (mX12_lacks μ (fX12_isStage μ a0)) a1 0 2000) 2) (326 + a0) a1  (And.left hq3) (And.left (And.right hq3))) gX12_setCrowd_X12_sets (rj_lt hω (k := 395) rfl) (rj_sh hω ly_395) rfl rfl hVX12_sets ⟨Nat.le_of_ble_eq_true rfl, Nat.le_of_ble_eq_true rfl⟩ dX12_setCrowd_38 rfl rfl rfl (Nat.le_of_ble_eq_true rfl) rfl (Nat.le_of_ble_eq_true rfl) rfl ?_
      exact rj_iret dX12_setCrowd_41 rfl (Nat.le_of_ble_eq_true rfl) (Nat.le_of_ble_eq_true rfl) ⟨(by unfold fX12_setCrowd; rw [if_pos h1]; rw [if_pos h2]; try rfl), rfl, (by unfold mX12_setCrowd; rw [if_pos h1]; rw [if_pos h2]; try rfl)⟩
    · skip
      refine rj_iconst (v := 0) dX12_setCrowd_27 rfl (by decide) ?_
      refine rj_goto dX12_setCrowd_28 rfl ?_
      exact rj_iret dX12_setCrowd_41 rfl (Nat.le_of_ble_eq_true rfl) (Nat.le_of_ble_eq_true rfl) ⟨(by unfold fX12_setCrowd; rw [if_pos h1]; rw [if_neg h2]; try rfl), rfl, (by unfold mX12_setCrowd; rw [if_pos h1]; rw [if_neg h2]; try rfl)⟩
theorem hSX12_hasTooMany : yX12_hasTooMany.cls ≠ "java/lang/invoke/MethodHandle" ∧ yX12_hasTooMany.cls ≠ "java/lang/invoke/VarHandle" ∧ (parseMethodDescriptor yX12_hasTooMany.desc).map (fun d => d.parameters.length) = some 2 := by decide +kernel
theorem hVX12_hasTooMany : yX12_hasTooMany.cls = RX12 ∧ yX12_hasTooMany.cls ≠ "java/lang/invoke/MethodHandle" ∧ yX12_hasTooMany.cls ≠ "java/lang/invoke/VarHandle" ∧ (parseMethodDescriptor yX12_hasTooMany.desc).map (fun d => d.parameters.length) = some 2 := by decide +kernel
theorem vX12_hasTooMany_12 : ∀ w ∈ u_ws RX12 TX12 16, w ∈ wsX12_hasTooMany := by decide +kernel
theorem kX12_hasTooMany_9 : Cond.fieldLink RX12 9 (TX12 1).1 (TX12 1).2.1 (TX12 1).2.2.1 ∈ wsX12_hasTooMany := by decide +kernel
theorem jX12_hasTooMany_92_0 : Cond.methodLink RX12 92 Lib.Math.min.name ∈ wsX12_hasTooMany := by decide +kernel
theorem jX12_hasTooMany_92_1 : Cond.static Lib.Math.min.name ∈ wsX12_hasTooMany := by decide +kernel
theorem jX12_hasTooMany_92_2 : Cond.initialized "java/lang/Math" ∈ wsX12_hasTooMany := by decide +kernel
theorem jX12_hasTooMany_92_3 : Cond.code Lib.Math.min.name Lib.Math.min.code 2 (some .int) ∈ wsX12_hasTooMany := by decide +kernel
noncomputable def bX12_hasTooMany_8 (μ : rj_M) (a0 : Int32) (a1 : Int32) (j8 : Nat) (s8 : Int32) : Int32 := (if ((a0 >>> ((nI j8) &&& 31)) &&& 1) = 1 then (s8 + (μ.1 396 (326 + (nI j8)).toNatClampNeg)) else (s8 + 0))
set_option maxHeartbeats 4000000 in
set_option maxRecDepth 100000 in
theorem lX12_hasTooMany_8 {g : rj_G} {ω : rj_W} (hω : rj_ok ω) (μ : rj_M) (a0 : Int32) (a1 : Int32)      {F : rj_F} : ∀ (r j : Nat) (s : Int32), j + r = 4 → (rj_R g RX12 cX12_hasTooMany 8 (some .boolean) wsX12_hasTooMany [] (rj_rm 1 0) F 0 ω μ [(0, .ref (ω.2.2 395)), (1, .int a0), (2, .int a1), (3, .int (rj_fo (bX12_hasTooMany_8 μ a0 a1) r j s)), (4, .int 0), (5, .int (nI 4))] 48 []) → rj_R g RX12 cX12_hasTooMany 8 (some .boolean) wsX12_hasTooMany [] (rj_rm 1 0) F 0 ω μ [(0, .ref (ω.2.2 395)), (1, .int a0), (2, .int a1), (3, .int s), (4, .int 0), (5, .int (nI j))] 8 [] := by
  intro r
  induction r with
  | zero =>
    intro j s hj K
    have e0 : j = 4 := by omega
    have hge : 4 ≤ nI j := by
      rw [e0]
      exact Int32.le_refl _
    refine rj_iload 5 dX12_hasTooMany_8 rfl rfl ?_
    refine rj_iconst (v := 4) dX12_hasTooMany_10 rfl (by decide) ?_
    refine rj_icmp_ge dX12_hasTooMany_11 rfl rfl (fun h3 => ?_) (fun h3 => ?_)
    · have e1 : nI j = nI 4 := by rw [e0]
      rw [e1]
      exact K
    · exact absurd hge h3
  | succ r ih =>
    intro j8 s8 hj K
    have hl8 : j8 < 4 := by omega
    have hg8 : ¬ 4 ≤ nI j8 := nI_ge hl8 (rj_bl rfl)
    refine rj_iload 5 dX12_hasTooMany_8 rfl rfl ?_
    refine rj_iconst (v := 4) dX12_hasTooMany_10 rfl (by decide) ?_
    refine rj_icmp_ge dX12_hasTooMany_11 rfl rfl (fun h1 => ?_) (fun h1 => ?_)
    · exact absurd h1 hg8
    · refine rj_iload_n 3 dX12_hasTooMany_14 rfl rfl ?_
      refine rj_iload_n 1 dX12_hasTooMany_15 rfl rfl ?_
      refine rj_iload 5 dX12_hasTooMany_16 rfl rfl ?_
      refine rj_ishr dX12_hasTooMany_18 rfl ?_
      refine rj_iconst (v := 1) dX12_hasTooMany_19 rfl (by decide) ?_
      refine rj_iand dX12_hasTooMany_20 rfl ?_
      refine rj_iconst (v := 1) dX12_hasTooMany_21 rfl (by decide) ?_
      refine rj_icmp_ne dX12_hasTooMany_22 rfl rfl (fun h2 => ?_) (fun h2 => ?_)
      · refine rj_iconst (v := 0) dX12_hasTooMany_39 rfl (by decide) ?_
        refine rj_iadd dX12_hasTooMany_40 rfl ?_
        refine rj_istore_n (l' := [(3, .int (s8 + 0)), (0, .ref (ω.2.2 395)), (1, .int a0), (2, .int a1), (4, .int 0), (5, .int (nI j8))]) dX12_hasTooMany_41 rfl (rj_bl rfl) rfl ?_
        refine rj_iinc (v := nI (j8 + 1)) (l' := [(5, .int (nI (j8 + 1))), (3, .int (s8 + 0)), (0, .ref (ω.2.2 395)), (1, .int a0), (2, .int a1), (4, .int 0)]) 5 dX12_hasTooMany_42 rfl rfl (nI_succ j8).symm (rj_bl rfl) rfl ?_
        refine rj_goto dX12_hasTooMany_45 rfl ?_
        have e : bX12_hasTooMany_8 μ a0 a1 j8 s8 = (s8 + 0) := by unfold bX12_hasTooMany_8; rw [if_neg h2]; try rfl
        exact rj_sub (l' := [(0, .ref (ω.2.2 395)), (1, .int a0), (2, .int a1), (3, .int (s8 + 0)), (4, .int 0), (5, .int (nI (j8 + 1)))]) [2, 3, 4, 1, 5, 0] rfl (ih (j8 + 1) (s8 + 0) (by omega) (by rw [rj_fo_s (r := r), e] at K; exact K))
      · refine rj_aload_n 0 dX12_hasTooMany_25 rfl rfl ?_
        refine rj_getR (C0 := RX12) (T := TX12) (N := 16) (j := 1) (r := 396) dX12_hasTooMany_26 rfl vX12_hasTooMany_12 rfl (rj_lt hω (k := 395) rfl) (rj_sh hω ly_395) (by decide) kX12_hasTooMany_9 rfl ?_
        refine rj_sipush (v := 326) dX12_hasTooMany_29 rfl (by decide) ?_
        refine rj_iload 5 dX12_hasTooMany_32 rfl rfl ?_
        refine rj_iadd dX12_hasTooMany_34 rfl ?_
        refine rj_iald dX12_hasTooMany_35 rfl (rj_lt hω (k := 396) rfl) (rj_sh hω ly_396) (rj_vle (rj_vadd (N := 330) (vp_in_nI (n := 326) (N := 327) (rj_bl rfl) (rj_bl rfl)) (vp_in_nI (N := 4) hl8 (rj_bl rfl)) rfl rfl) rfl) ?_
        refine rj_goto dX12_hasTooMany_36 rfl ?_
        refine rj_iadd dX12_hasTooMany_40 rfl ?_
        refine rj_istore_n (l' := [(3, .int (s8 + (μ.1 396 (326 + (nI j8)).toNatClampNeg))), (0, .ref (ω.2.2 395)), (1, .int a0), (2, .int a1), (4, .int 0), (5, .int (nI j8))]) dX12_hasTooMany_41 rfl (rj_bl rfl) rfl ?_
        refine rj_iinc (v := nI (j8 + 1)) (l' := [(5, .int (nI (j8 + 1))), (3, .int (s8 + (μ.1 396 (326 + (nI j8)).toNatClampNeg))), (0, .ref (ω.2.2 395)), (1, .int a0), (2, .int a1), (4, .int 0)]) 5 dX12_hasTooMany_42 rfl rfl (nI_succ j8).symm (rj_bl rfl) rfl ?_
        refine rj_goto dX12_hasTooMany_45 rfl ?_
        have e : bX12_hasTooMany_8 μ a0 a1 j8 s8 = (s8 + (μ.1 396 (326 + (nI j8)).toNatClampNeg)) := by unfold bX12_hasTooMany_8; rw [if_pos h2]; try rfl
        exact rj_sub (l' := [(0, .ref (ω.2.2 395)), (1, .int a0), (2, .int a1), (3, .int (s8 + (μ.1 396 (326 + (nI j8)).toNatClampNeg))), (4, .int 0), (5, .int (nI (j8 + 1)))]) [2, 3, 4, 1, 5, 0] rfl (ih (j8 + 1) (s8 + (μ.1 396 (326 + (nI j8)).toNatClampNeg)) (by omega) (by rw [rj_fo_s (r := r), e] at K; exact K))
noncomputable def bX12_hasTooMany_63 (μ : rj_M) (a0 : Int32) (a1 : Int32) (j51 : Nat) (s51 : Int32) (j63 : Nat) (s63 : Int32) : Int32 := (if ((a0 >>> ((nI j63) &&& 31)) &&& 1) = 1 then (if (μ.1 396 ((314 + (4 * (nI j51))) + (nI j63)).toNatClampNeg) < s63 then (μ.1 396 ((314 + (4 * (nI j51))) + (nI j63)).toNatClampNeg) else s63) else s63)
set_option maxHeartbeats 4000000 in
set_option maxRecDepth 100000 in
theorem lX12_hasTooMany_63 {g : rj_G} {ω : rj_W} (hω : rj_ok ω) (μ : rj_M) (a0 : Int32) (a1 : Int32) (j51 : Nat) (s51 : Int32)   (hl51 : j51 < 3)  (h4 : ¬ (3 ≤ nI j51)) {F : rj_F} : ∀ (r j : Nat) (s : Int32), j + r = 4 → (rj_R g RX12 cX12_hasTooMany 8 (some .boolean) wsX12_hasTooMany [] (rj_rm 1 0) F 0 ω μ [(0, .ref (ω.2.2 395)), (1, .int a0), (2, .int a1), (3, .int (rj_fo (bX12_hasTooMany_8 μ a0 a1) 4 0 0)), (4, .int s51), (5, .int (nI j51)), (6, .int (rj_fo (bX12_hasTooMany_63 μ a0 a1 j51 s51) r j s)), (7, .int (nI 4))] 108 []) → rj_R g RX12 cX12_hasTooMany 8 (some .boolean) wsX12_hasTooMany [] (rj_rm 1 0) F 0 ω μ [(0, .ref (ω.2.2 395)), (1, .int a0), (2, .int a1), (3, .int (rj_fo (bX12_hasTooMany_8 μ a0 a1) 4 0 0)), (4, .int s51), (5, .int (nI j51)), (6, .int s), (7, .int (nI j))] 63 [] := by
  intro r
  induction r with
  | zero =>
    intro j s hj K
    have e0 : j = 4 := by omega
    have hge : 4 ≤ nI j := by
      rw [e0]
      exact Int32.le_refl _
    refine rj_iload 7 dX12_hasTooMany_63 rfl rfl ?_
    refine rj_iconst (v := 4) dX12_hasTooMany_65 rfl (by decide) ?_
    refine rj_icmp_ge dX12_hasTooMany_66 rfl rfl (fun h7 => ?_) (fun h7 => ?_)
    · have e1 : nI j = nI 4 := by rw [e0]
      rw [e1]
      exact K
    · exact absurd hge h7
  | succ r ih =>
    intro j63 s63 hj K
    have hl63 : j63 < 4 := by omega
    have hg63 : ¬ 4 ≤ nI j63 := nI_ge hl63 (rj_bl rfl)
    refine rj_iload 7 dX12_hasTooMany_63 rfl rfl ?_
    refine rj_iconst (v := 4) dX12_hasTooMany_65 rfl (by decide) ?_
    refine rj_icmp_ge dX12_hasTooMany_66 rfl rfl (fun h5 => ?_) (fun h5 => ?_)
    · exact absurd h5 hg63
    · refine rj_iload_n 1 dX12_hasTooMany_69 rfl rfl ?_
      refine rj_iload 7 dX12_hasTooMany_70 rfl rfl ?_
      refine rj_ishr dX12_hasTooMany_72 rfl ?_
      refine rj_iconst (v := 1) dX12_hasTooMany_73 rfl (by decide) ?_
      refine rj_iand dX12_hasTooMany_74 rfl ?_
      refine rj_iconst (v := 1) dX12_hasTooMany_75 rfl (by decide) ?_
      refine rj_icmp_ne dX12_hasTooMany_76 rfl rfl (fun h6 => ?_) (fun h6 => ?_)
      · refine rj_iinc (v := nI (j63 + 1)) (l' := [(7, .int (nI (j63 + 1))), (0, .ref (ω.2.2 395)), (1, .int a0), (2, .int a1), (3, .int (rj_fo (bX12_hasTooMany_8 μ a0 a1) 4 0 0)), (4, .int s51), (5, .int (nI j51)), (6, .int s63)]) 7 dX12_hasTooMany_102 rfl rfl (nI_succ j63).symm (rj_bl rfl) rfl ?_
        refine rj_goto dX12_hasTooMany_105 rfl ?_
        have e : bX12_hasTooMany_63 μ a0 a1 j51 s51 j63 s63 = s63 := by unfold bX12_hasTooMany_63; rw [if_neg h6]; try rfl
        exact rj_sub (l' := [(0, .ref (ω.2.2 395)), (1, .int a0), (2, .int a1), (3, .int (rj_fo (bX12_hasTooMany_8 μ a0 a1) 4 0 0)), (4, .int s51), (5, .int (nI j51)), (6, .int s63), (7, .int (nI (j63 + 1)))]) [1, 2, 3, 4, 5, 6, 7, 0] rfl (ih (j63 + 1) s63 (by omega) (by rw [rj_fo_s (r := r), e] at K; exact K))
      · refine rj_iload 6 dX12_hasTooMany_79 rfl rfl ?_
        refine rj_aload_n 0 dX12_hasTooMany_81 rfl rfl ?_
        refine rj_getR (C0 := RX12) (T := TX12) (N := 16) (j := 1) (r := 396) dX12_hasTooMany_82 rfl vX12_hasTooMany_12 rfl (rj_lt hω (k := 395) rfl) (rj_sh hω ly_395) (by decide) kX12_hasTooMany_9 rfl ?_
        refine rj_sipush (v := 314) dX12_hasTooMany_85 rfl (by decide) ?_
        refine rj_iconst (v := 4) dX12_hasTooMany_88 rfl (by decide) ?_
        refine rj_iload 5 dX12_hasTooMany_89 rfl rfl ?_
        refine rj_imul dX12_hasTooMany_91 rfl ?_
        refine rj_iadd dX12_hasTooMany_92 rfl ?_
        refine rj_iload 7 dX12_hasTooMany_93 rfl rfl ?_
        refine rj_iadd dX12_hasTooMany_95 rfl ?_
        refine rj_iald dX12_hasTooMany_96 rfl (rj_lt hω (k := 396) rfl) (rj_sh hω ly_396) (rj_vle (rj_vadd (N := 326) (rj_vadd (N := 323) (vp_in_nI (n := 314) (N := 315) (rj_bl rfl) (rj_bl rfl)) (rj_vmul (k := 4) (N := 9) (vp_in_nI (N := 3) hl51 (rj_bl rfl)) rfl rfl) rfl rfl) (vp_in_nI (N := 4) hl63 (rj_bl rfl)) rfl rfl) rfl) ?_
        refine rj_mmin dX12_hasTooMany_97 rfl jX12_hasTooMany_92_0 jX12_hasTooMany_92_1 jX12_hasTooMany_92_2 jX12_hasTooMany_92_3 (Nat.le_of_ble_eq_true rfl) (Nat.le_of_ble_eq_true rfl) (Nat.le_of_ble_eq_true rfl) (Nat.le_of_ble_eq_true rfl) ?_
        refine rj_istore (l' := [(6, .int (if (μ.1 396 ((314 + (4 * (nI j51))) + (nI j63)).toNatClampNeg) < s63 then (μ.1 396 ((314 + (4 * (nI j51))) + (nI j63)).toNatClampNeg) else s63)), (0, .ref (ω.2.2 395)), (1, .int a0), (2, .int a1), (3, .int (rj_fo (bX12_hasTooMany_8 μ a0 a1) 4 0 0)), (4, .int s51), (5, .int (nI j51)), (7, .int (nI j63))]) dX12_hasTooMany_100 rfl (rj_bl rfl) rfl ?_
        refine rj_iinc (v := nI (j63 + 1)) (l' := [(7, .int (nI (j63 + 1))), (6, .int (if (μ.1 396 ((314 + (4 * (nI j51))) + (nI j63)).toNatClampNeg) < s63 then (μ.1 396 ((314 + (4 * (nI j51))) + (nI j63)).toNatClampNeg) else s63)), (0, .ref (ω.2.2 395)), (1, .int a0), (2, .int a1), (3, .int (rj_fo (bX12_hasTooMany_8 μ a0 a1) 4 0 0)), (4, .int s51), (5, .int (nI j51))]) 7 dX12_hasTooMany_102 rfl rfl (nI_succ j63).symm (rj_bl rfl) rfl ?_
        refine rj_goto dX12_hasTooMany_105 rfl ?_
        have e : bX12_hasTooMany_63 μ a0 a1 j51 s51 j63 s63 = (if (μ.1 396 ((314 + (4 * (nI j51))) + (nI j63)).toNatClampNeg) < s63 then (μ.1 396 ((314 + (4 * (nI j51))) + (nI j63)).toNatClampNeg) else s63) := by unfold bX12_hasTooMany_63; rw [if_pos h6]; try rfl
        exact rj_sub (l' := [(0, .ref (ω.2.2 395)), (1, .int a0), (2, .int a1), (3, .int (rj_fo (bX12_hasTooMany_8 μ a0 a1) 4 0 0)), (4, .int s51), (5, .int (nI j51)), (6, .int (if (μ.1 396 ((314 + (4 * (nI j51))) + (nI j63)).toNatClampNeg) < s63 then (μ.1 396 ((314 + (4 * (nI j51))) + (nI j63)).toNatClampNeg) else s63)), (7, .int (nI (j63 + 1)))]) [2, 3, 4, 5, 6, 7, 1, 0] rfl (ih (j63 + 1) (if (μ.1 396 ((314 + (4 * (nI j51))) + (nI j63)).toNatClampNeg) < s63 then (μ.1 396 ((314 + (4 * (nI j51))) + (nI j63)).toNatClampNeg) else s63) (by omega) (by rw [rj_fo_s (r := r), e] at K; exact K))
noncomputable def bX12_hasTooMany_51 (μ : rj_M) (a0 : Int32) (a1 : Int32) (j51 : Nat) (s51 : Int32) : Int32 := (s51 + ((μ.1 396 (311 + (nI j51)).toNatClampNeg) * (a1 - (rj_fo (bX12_hasTooMany_63 μ a0 a1 j51 s51) 4 0 a1))))
set_option maxHeartbeats 4000000 in
set_option maxRecDepth 100000 in
theorem lX12_hasTooMany_51 {g : rj_G} {ω : rj_W} (hω : rj_ok ω) (μ : rj_M) (a0 : Int32) (a1 : Int32)      {F : rj_F} : ∀ (r j : Nat) (s : Int32), j + r = 3 → (rj_R g RX12 cX12_hasTooMany 8 (some .boolean) wsX12_hasTooMany [] (rj_rm 1 0) F 0 ω μ [(0, .ref (ω.2.2 395)), (1, .int a0), (2, .int a1), (3, .int (rj_fo (bX12_hasTooMany_8 μ a0 a1) 4 0 0)), (4, .int (rj_fo (bX12_hasTooMany_51 μ a0 a1) r j s)), (5, .int (nI 3))] 135 []) → rj_R g RX12 cX12_hasTooMany 8 (some .boolean) wsX12_hasTooMany [] (rj_rm 1 0) F 0 ω μ [(0, .ref (ω.2.2 395)), (1, .int a0), (2, .int a1), (3, .int (rj_fo (bX12_hasTooMany_8 μ a0 a1) 4 0 0)), (4, .int s), (5, .int (nI j))] 51 [] := by
  intro r
  induction r with
  | zero =>
    intro j s hj K
    have e0 : j = 3 := by omega
    have hge : 3 ≤ nI j := by
      rw [e0]
      exact Int32.le_refl _
    refine rj_iload 5 dX12_hasTooMany_51 rfl rfl ?_
    refine rj_iconst (v := 3) dX12_hasTooMany_53 rfl (by decide) ?_
    refine rj_icmp_ge dX12_hasTooMany_54 rfl rfl (fun h8 => ?_) (fun h8 => ?_)
    · have e1 : nI j = nI 3 := by rw [e0]
      rw [e1]
      exact K
    · exact absurd hge h8
  | succ r ih =>
    intro j51 s51 hj K
    have hl51 : j51 < 3 := by omega
    have hg51 : ¬ 3 ≤ nI j51 := nI_ge hl51 (rj_bl rfl)
    refine rj_iload 5 dX12_hasTooMany_51 rfl rfl ?_
    refine rj_iconst (v := 3) dX12_hasTooMany_53 rfl (by decide) ?_
    refine rj_icmp_ge dX12_hasTooMany_54 rfl rfl (fun h4 => ?_) (fun h4 => ?_)
    · exact absurd h4 hg51
    · refine rj_iload_n 2 dX12_hasTooMany_57 rfl rfl ?_
      refine rj_istore (l' := [(6, .int a1), (0, .ref (ω.2.2 395)), (1, .int a0), (2, .int a1), (3, .int (rj_fo (bX12_hasTooMany_8 μ a0 a1) 4 0 0)), (4, .int s51), (5, .int (nI j51))]) dX12_hasTooMany_58 rfl (rj_bl rfl) rfl ?_
      refine rj_iconst (v := 0) dX12_hasTooMany_60 rfl (by decide) ?_
      refine rj_istore (l' := [(7, .int 0), (6, .int a1), (0, .ref (ω.2.2 395)), (1, .int a0), (2, .int a1), (3, .int (rj_fo (bX12_hasTooMany_8 μ a0 a1) 4 0 0)), (4, .int s51), (5, .int (nI j51))]) dX12_hasTooMany_61 rfl (rj_bl rfl) rfl ?_
      refine rj_sub (l' := [(0, .ref (ω.2.2 395)), (1, .int a0), (2, .int a1), (3, .int (rj_fo (bX12_hasTooMany_8 μ a0 a1) 4 0 0)), (4, .int s51), (5, .int (nI j51)), (6, .int a1), (7, .int (nI 0))]) [2, 3, 4, 5, 6, 7, 1, 0] rfl ?_
      refine lX12_hasTooMany_63 hω μ a0 a1 j51 s51   hl51  h4 4 0 a1 rfl ?_
      refine rj_iload 4 dX12_hasTooMany_108 rfl rfl ?_
      refine rj_aload_n 0 dX12_hasTooMany_110 rfl rfl ?_
      refine rj_getR (C0 := RX12) (T := TX12) (N := 16) (j := 1) (r := 396) dX12_hasTooMany_111 rfl vX12_hasTooMany_12 rfl (rj_lt hω (k := 395) rfl) (rj_sh hω ly_395) (by decide) kX12_hasTooMany_9 rfl ?_
      refine rj_sipush (v := 311) dX12_hasTooMany_114 rfl (by decide) ?_
      refine rj_iload 5 dX12_hasTooMany_117 rfl rfl ?_
      refine rj_iadd dX12_hasTooMany_119 rfl ?_
      refine rj_iald dX12_hasTooMany_120 rfl (rj_lt hω (k := 396) rfl) (rj_sh hω ly_396) (rj_vle (rj_vadd (N := 314) (vp_in_nI (n := 311) (N := 312) (rj_bl rfl) (rj_bl rfl)) (vp_in_nI (N := 3) hl51 (rj_bl rfl)) rfl rfl) rfl) ?_
      refine rj_iload_n 2 dX12_hasTooMany_121 rfl rfl ?_
      refine rj_iload 6 dX12_hasTooMany_122 rfl rfl ?_
      refine rj_isub dX12_hasTooMany_124 rfl ?_
      refine rj_imul dX12_hasTooMany_125 rfl ?_
      refine rj_iadd dX12_hasTooMany_126 rfl ?_
      refine rj_istore (l' := [(4, .int (s51 + ((μ.1 396 (311 + (nI j51)).toNatClampNeg) * (a1 - (rj_fo (bX12_hasTooMany_63 μ a0 a1 j51 s51) 4 0 a1))))), (0, .ref (ω.2.2 395)), (1, .int a0), (2, .int a1), (3, .int (rj_fo (bX12_hasTooMany_8 μ a0 a1) 4 0 0)), (5, .int (nI j51)), (6, .int (rj_fo (bX12_hasTooMany_63 μ a0 a1 j51 s51) 4 0 a1)), (7, .int (nI 4))]) dX12_hasTooMany_127 rfl (rj_bl rfl) rfl ?_
      refine rj_iinc (v := nI (j51 + 1)) (l' := [(5, .int (nI (j51 + 1))), (4, .int (s51 + ((μ.1 396 (311 + (nI j51)).toNatClampNeg) * (a1 - (rj_fo (bX12_hasTooMany_63 μ a0 a1 j51 s51) 4 0 a1))))), (0, .ref (ω.2.2 395)), (1, .int a0), (2, .int a1), (3, .int (rj_fo (bX12_hasTooMany_8 μ a0 a1) 4 0 0)), (6, .int (rj_fo (bX12_hasTooMany_63 μ a0 a1 j51 s51) 4 0 a1)), (7, .int (nI 4))]) 5 dX12_hasTooMany_129 rfl rfl (nI_succ j51).symm (rj_bl rfl) rfl ?_
      refine rj_goto dX12_hasTooMany_132 rfl ?_
      have e : bX12_hasTooMany_51 μ a0 a1 j51 s51 = (s51 + ((μ.1 396 (311 + (nI j51)).toNatClampNeg) * (a1 - (rj_fo (bX12_hasTooMany_63 μ a0 a1 j51 s51) 4 0 a1)))) := by unfold bX12_hasTooMany_51; rfl
      revert e
      generalize (rj_fo (bX12_hasTooMany_63 μ a0 a1 j51 s51) 4 0 a1) = gA0
      intro e
      exact rj_sub (l' := [(0, .ref (ω.2.2 395)), (1, .int a0), (2, .int a1), (3, .int (rj_fo (bX12_hasTooMany_8 μ a0 a1) 4 0 0)), (4, .int (s51 + ((μ.1 396 (311 + (nI j51)).toNatClampNeg) * (a1 - gA0)))), (5, .int (nI (j51 + 1)))]) [2, 3, 4, 5, 1, 0] rfl (ih (j51 + 1) (s51 + ((μ.1 396 (311 + (nI j51)).toNatClampNeg) * (a1 - gA0))) (by omega) (by rw [rj_fo_s (r := r), e] at K; exact K))
noncomputable def fX12_hasTooMany (μ : rj_M) (a0 : Int32) (a1 : Int32) : Int32 := (if (rj_fo (bX12_hasTooMany_8 μ a0 a1) 4 0 0) ≤ (rj_fo (bX12_hasTooMany_51 μ a0 a1) 3 0 0) then 0 else 1)
set_option maxHeartbeats 40000000 in
set_option maxRecDepth 100000 in
theorem sX12_hasTooMany {g : rj_G} {ω : rj_W} (hω : rj_ok ω) (μ : rj_M) (a0 : Int32) (a1 : Int32)   : rj_Sp g yX12_hasTooMany wsX12_hasTooMany (rj_rm 1 0) [.ref (ω.2.2 395), .int a0, .int a1] ω μ (rj_D (.inl (some (.int (fX12_hasTooMany μ a0 a1)))) ω μ) := by
  refine rj_of' (cc := cX12_hasTooMany) (nL := 8) (ret := (some .boolean)) (own := RX12) (l0 := [(0, .ref (ω.2.2 395)), (1, .int a0), (2, .int a1)]) rfl (by decide +kernel) rfl (Nat.le_of_ble_eq_true rfl) rfl ?_
  refine rj_iconst (v := 0) dX12_hasTooMany_0 rfl (by decide) ?_
  refine rj_istore_n (l' := [(3, .int 0), (0, .ref (ω.2.2 395)), (1, .int a0), (2, .int a1)]) dX12_hasTooMany_1 rfl (rj_bl rfl) rfl ?_
  refine rj_iconst (v := 0) dX12_hasTooMany_2 rfl (by decide) ?_
  refine rj_istore (l' := [(4, .int 0), (3, .int 0), (0, .ref (ω.2.2 395)), (1, .int a0), (2, .int a1)]) dX12_hasTooMany_3 rfl (rj_bl rfl) rfl ?_
  refine rj_iconst (v := 0) dX12_hasTooMany_5 rfl (by decide) ?_
  refine rj_istore (l' := [(5, .int 0), (4, .int 0), (3, .int 0), (0, .ref (ω.2.2 395)), (1, .int a0), (2, .int a1)]) dX12_hasTooMany_6 rfl (rj_bl rfl) rfl ?_
  refine rj_sub (l' := [(0, .ref (ω.2.2 395)), (1, .int a0), (2, .int a1), (3, .int 0), (4, .int 0), (5, .int (nI 0))]) [3, 4, 5, 2, 1, 0] rfl ?_
  refine lX12_hasTooMany_8 hω μ a0 a1      4 0 0 rfl ?_
  refine rj_iconst (v := 0) dX12_hasTooMany_48 rfl (by decide) ?_
  refine rj_istore (l' := [(5, .int 0), (0, .ref (ω.2.2 395)), (1, .int a0), (2, .int a1), (3, .int (rj_fo (bX12_hasTooMany_8 μ a0 a1) 4 0 0)), (4, .int 0)]) dX12_hasTooMany_49 rfl (rj_bl rfl) rfl ?_
  refine rj_sub (l' := [(0, .ref (ω.2.2 395)), (1, .int a0), (2, .int a1), (3, .int (rj_fo (bX12_hasTooMany_8 μ a0 a1) 4 0 0)), (4, .int 0), (5, .int (nI 0))]) [1, 2, 3, 4, 5, 0] rfl ?_
  refine lX12_hasTooMany_51 hω μ a0 a1      3 0 0 rfl ?_
  refine rj_iload_n 3 dX12_hasTooMany_135 rfl rfl ?_
  refine rj_iload 4 dX12_hasTooMany_136 rfl rfl ?_
  refine rj_icmp_le dX12_hasTooMany_138 rfl rfl (fun h9 => ?_) (fun h9 => ?_)
  · refine rj_iconst (v := 0) dX12_hasTooMany_145 rfl (by decide) ?_
    exact rj_zret dX12_hasTooMany_146 rfl rfl (Nat.le_of_ble_eq_true rfl) (Nat.le_of_ble_eq_true rfl) ⟨(by unfold fX12_hasTooMany; rw [if_pos h9]; try rfl), rfl, rfl⟩
  · refine rj_iconst (v := 1) dX12_hasTooMany_141 rfl (by decide) ?_
    refine rj_goto dX12_hasTooMany_142 rfl ?_
    exact rj_zret dX12_hasTooMany_146 rfl rfl (Nat.le_of_ble_eq_true rfl) (Nat.le_of_ble_eq_true rfl) ⟨(by unfold fX12_hasTooMany; rw [if_neg h9]; try rfl), rfl, rfl⟩
theorem nX12_hasTooMany (μ : rj_M) (a0 : Int32) (a1 : Int32) : narrow .boolean (.int (fX12_hasTooMany μ a0 a1)) = .int (fX12_hasTooMany μ a0 a1) := by
  unfold fX12_hasTooMany
  split
  · rfl
  · rfl
