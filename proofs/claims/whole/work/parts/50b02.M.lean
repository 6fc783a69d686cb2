theorem hSX12_wish : yX12_wish.cls ≠ "java/lang/invoke/MethodHandle" ∧ yX12_wish.cls ≠ "java/lang/invoke/VarHandle" ∧ (parseMethodDescriptor yX12_wish.desc).map (fun d => d.parameters.length) = some 3 := by decide +kernel
theorem hVX12_wish : yX12_wish.cls = RX12 ∧ yX12_wish.cls ≠ "java/lang/invoke/MethodHandle" ∧ yX12_wish.cls ≠ "java/lang/invoke/VarHandle" ∧ (parseMethodDescriptor yX12_wish.desc).map (fun d => d.parameters.length) = some 3 := by decide +kernel
def fX12_wish (μ : rj_M) (a0 : Int32) (a1 : Int32) (a2 : Int32) : Int32 := (if (fX12_isVisitor μ a0) = 0 then 0 else (if (fX12_isAct μ a1) = 0 then 0 else (if (fX12_no (mX12_lacksT μ) (fX12_in (mX12_lacksT μ) a2 0 9) 2) = 0 then (fX12_sets (mX12_no (mX12_lacksT μ) (fX12_in (mX12_lacksT μ) a2 0 9) 2) ((119 + (16 * a0)) + a1) a2) else 0)))
def mX12_wish (μ : rj_M) (a0 : Int32) (a1 : Int32) (a2 : Int32) : rj_M := (if (fX12_isVisitor μ a0) = 0 then (mX12_lacksF μ) else (if (fX12_isAct μ a1) = 0 then (mX12_lacksF μ) else (if (fX12_no (mX12_lacksT μ) (fX12_in (mX12_lacksT μ) a2 0 9) 2) = 0 then (mX12_sets (mX12_no (mX12_lacksT μ) (fX12_in (mX12_lacksT μ) a2 0 9) 2) ((119 + (16 * a0)) + a1) a2) else (mX12_no (mX12_lacksT μ) (fX12_in (mX12_lacksT μ) a2 0 9) 2))))
def qX12_wish (μ : rj_M) (a0 : Int32) (a1 : Int32) (a2 : Int32) : Prop := ((((fX12_isVisitor μ a0) = 0) → True) ∧ ((¬ ((fX12_isVisitor μ a0) = 0)) → ((((fX12_isAct μ a1) = 0) → True) ∧ ((¬ ((fX12_isAct μ a1) = 0)) → ((((fX12_no (mX12_lacksT μ) (fX12_in (mX12_lacksT μ) a2 0 9) 2) = 0) → (qX12_sets (mX12_no (mX12_lacksT μ) (fX12_in (mX12_lacksT μ) a2 0 9) 2) ((119 + (16 * a0)) + a1) a2 ∧ True)) ∧ ((¬ ((fX12_no (mX12_lacksT μ) (fX12_in (mX12_lacksT μ) a2 0 9) 2) = 0)) → True))))))
set_option maxHeartbeats 40000000 in
set_option maxRecDepth 100000 in
theorem sX12_wish {g : rj_G} {ω : rj_W} (hω : rj_ok ω) (μ : rj_M) (a0 : Int32) (a1 : Int32) (a2 : Int32)   (hq : qX12_wish μ a0 a1 a2) : rj_Sp g yX12_wish wsX12_wish (rj_rm 3 0) [.ref (ω.2.2 395), .int a0, .int a1, .int a2] ω μ (rj_D (.inl (some (.int (fX12_wish μ a0 a1 a2)))) ω (mX12_wish μ a0 a1 a2)) := by
  have hqa := hq
  unfold qX12_wish at hqa
  refine rj_of' (cc := cX12_wish) (nL := 4) (ret := (some .int)) (own := RX12) (l0 := [(0, .ref (ω.2.2 395)), (1, .int a0), (2, .int a1), (3, .int a2)]) rfl (by decide +kernel) rfl (Nat.le_of_ble_eq_true rfl) rfl ?_
  refine rj_aload_n 0 dX12_wish_0 rfl rfl ?_
  refine rj_iload_n 1 dX12_wish_1 rfl rfl ?_
  refine rj_cS (rest := [.ref (ω.2.2 395)]) (sX12_isVisitor (g := g) (ω := ω) hω μ a0   ) gX12_wish_X12_isVisitor rfl hSX12_isVisitor ⟨Nat.le_of_ble_eq_true rfl, Nat.le_of_ble_eq_true rfl⟩ dX12_wish_2 rfl rfl rfl (Nat.le_of_ble_eq_true rfl) rfl (Nat.le_of_ble_eq_true rfl) rfl ?_
  refine rj_if_eq dX12_wish_5 rfl rfl (fun h1 => ?_) (fun h1 => ?_)
  · skip
    refine rj_iconst (v := 0) dX12_wish_20 rfl (by decide) ?_
    refine rj_cV (rest := []) (sX12_lacksF (g := g) (ω := ω) hω μ   ) gX12_wish_X12_lacks (rj_lt hω (k := 395) rfl) (rj_sh hω ly_395) rfl rfl hVX12_lacks ⟨Nat.le_of_ble_eq_true rfl, Nat.le_of_ble_eq_true rfl⟩ dX12_wish_21 rfl rfl rfl (Nat.le_of_ble_eq_true rfl) rfl (Nat.le_of_ble_eq_true rfl) rfl ?_
    refine rj_if_ne dX12_wish_24 rfl rfl (fun h2 => ?_) (fun h2 => ?_)
    · refine rj_iconst (v := 0) dX12_wish_42 rfl (by decide) ?_
      refine rj_goto dX12_wish_43 rfl ?_
      exact rj_iret dX12_wish_60 rfl (Nat.le_of_ble_eq_true rfl) (Nat.le_of_ble_eq_true rfl) ⟨(by unfold fX12_wish; rw [if_pos h1]; try rfl), rfl, (by unfold mX12_wish; rw [if_pos h1]; try rfl)⟩
    · exact absurd h2 (by decide)
  · have hq2 := (And.right hqa) h1
    refine rj_aload_n 0 dX12_wish_8 rfl rfl ?_
    refine rj_iload_n 2 dX12_wish_9 rfl rfl ?_
    refine rj_cV (rest := [.ref (ω.2.2 395)]) (sX12_isAct (g := g) (ω := ω) hω μ a1   ) gX12_wish_X12_isAct (rj_lt hω (k := 395) rfl) (rj_sh hω ly_395) rfl rfl hVX12_isAct ⟨Nat.le_of_ble_eq_true rfl, Nat.le_of_ble_eq_true rfl⟩ dX12_wish_10 rfl rfl rfl (Nat.le_of_ble_eq_true rfl) rfl (Nat.le_of_ble_eq_true rfl) rfl ?_
    refine rj_if_eq dX12_wish_13 rfl rfl (fun h3 => ?_) (fun h3 => ?_)
    · skip
      refine rj_iconst (v := 0) dX12_wish_20 rfl (by decide) ?_
      refine rj_cV (rest := []) (sX12_lacksF (g := g) (ω := ω) hω μ   ) gX12_wish_X12_lacks (rj_lt hω (k := 395) rfl) (rj_sh hω ly_395) rfl rfl hVX12_lacks ⟨Nat.le_of_ble_eq_true rfl, Nat.le_of_ble_eq_true rfl⟩ dX12_wish_21 rfl rfl rfl (Nat.le_of_ble_eq_true rfl) rfl (Nat.le_of_ble_eq_true rfl) rfl ?_
      refine rj_if_ne dX12_wish_24 rfl rfl (fun h4 => ?_) (fun h4 => ?_)
      · refine rj_iconst (v := 0) dX12_wish_42 rfl (by decide) ?_
        refine rj_goto dX12_wish_43 rfl ?_
        exact rj_iret dX12_wish_60 rfl (Nat.le_of_ble_eq_true rfl) (Nat.le_of_ble_eq_true rfl) ⟨(by unfold fX12_wish; rw [if_neg h1]; rw [if_pos h3]; try rfl), rfl, (by unfold mX12_wish; rw [if_neg h1]; rw [if_pos h3]; try rfl)⟩
      · exact absurd h4 (by decide)
    · have hq4 := (And.right hq2) h3
      refine rj_iconst (v := 1) dX12_wish_16 rfl (by decide) ?_
      refine rj_goto dX12_wish_17 rfl ?_
      refine rj_cV (rest := []) (sX12_lacksT (g := g) (ω := ω) hω μ   ) gX12_wish_X12_lacks (rj_lt hω (k := 395) rfl) (rj_sh hω ly_395) rfl rfl hVX12_lacks ⟨Nat.le_of_ble_eq_true rfl, Nat.le_of_ble_eq_true rfl⟩ dX12_wish_21 rfl rfl rfl (Nat.le_of_ble_eq_true rfl) rfl (Nat.le_of_ble_eq_true rfl) rfl ?_
      refine rj_if_ne dX12_wish_24 rfl rfl (fun h5 => ?_) (fun h5 => ?_)
      · exact absurd (by decide) h5
      · refine rj_aload_n 0 dX12_wish_27 rfl rfl ?_
        refine rj_iload_n 3 dX12_wish_28 rfl rfl ?_
        refine rj_iconst (v := 0) dX12_wish_29 rfl (by decide) ?_
        refine rj_bipush (v := 9) dX12_wish_30 rfl (by decide) ?_
        refine rj_cS (rest := [.ref (ω.2.2 395)]) (sX12_in (g := g) (ω := ω) hω (mX12_lacksT μ) a2 0 9   ) gX12_wish_X12_in rfl hSX12_in ⟨Nat.le_of_ble_eq_true rfl, Nat.le_of_ble_eq_true rfl⟩ dX12_wish_32 rfl rfl rfl (Nat.le_of_ble_eq_true rfl) rfl (Nat.le_of_ble_eq_true rfl) rfl ?_
        refine rj_iconst (v := 2) dX12_wish_35 rfl (by decide) ?_
        refine rj_cV (rest := []) (sX12_no (g := g) (ω := ω) hω (mX12_lacksT μ) (fX12_in (mX12_lacksT μ) a2 0 9) 2   ) gX12_wish_X12_no (rj_lt hω (k := 395) rfl) (rj_sh hω ly_395) rfl rfl hVX12_no ⟨Nat.le_of_ble_eq_true rfl, Nat.le_of_ble_eq_true rfl⟩ dX12_wish_36 rfl rfl rfl (Nat.le_of_ble_eq_true rfl) rfl (Nat.le_of_ble_eq_true rfl) rfl ?_
        refine rj_if_eq dX12_wish_39 rfl rfl (fun h6 => ?_) (fun h6 => ?_)
        · have hq5 := (And.left hq4) h6
          refine rj_aload_n 0 dX12_wish_46 rfl rfl ?_
          refine rj_bipush (v := 119) dX12_wish_47 rfl (by decide) ?_
          refine rj_bipush (v := 16) dX12_wish_49 rfl (by decide) ?_
          refine rj_iload_n 1 dX12_wish_51 rfl rfl ?_
          refine rj_imul dX12_wish_52 rfl ?_
          refine rj_iadd dX12_wish_53 rfl ?_
          refine rj_iload_n 2 dX12_wish_54 rfl rfl ?_
          refine rj_iadd dX12_wish_55 rfl ?_
          refine rj_iload_n 3 dX12_wish_56 rfl rfl ?_
          refine rj_cV (rest := []) (sX12_sets (g := g) (ω := ω) hω (mX12_no (mX12_lacksT μ) (fX12_in (mX12_lacksT μ) a2 0 9) 2) ((119 + (16 * a0)) + a1) a2  (rj_vle (rj_vadd (N := 311) (rj_vadd (N := 296) (vp_in_nI (n := 119) (N := 120) (rj_bl rfl) (rj_bl rfl)) (rj_vmul (k := 16) (N := 177) (rj_isVisitor h1) rfl rfl) rfl rfl) (rj_isAct h3) rfl rfl) rfl) (And.left hq5)) gX12_wish_X12_sets (rj_lt hω (k := 395) rfl) (rj_sh hω ly_395) rfl rfl hVX12_sets ⟨Nat.le_of_ble_eq_true rfl, Nat.le_of_ble_eq_true rfl⟩ dX12_wish_57 rfl rfl rfl (Nat.le_of_ble_eq_true rfl) rfl (Nat.le_of_ble_eq_true rfl) rfl ?_
          exact rj_iret dX12_wish_60 rfl (Nat.le_of_ble_eq_true rfl) (Nat.le_of_ble_eq_true rfl) ⟨(by unfold fX12_wish; rw [if_neg h1]; rw [if_neg h3]; rw [if_pos h6]; try rfl), rfl, (by unfold mX12_wish; rw [if_neg h1]; rw [if_neg h3]; rw [if_pos h6]; try rfl)⟩
        · skip
          refine rj_iconst (v := 0) dX12_wish_42 rfl (by decide) ?_
          refine rj_goto dX12_wish_43 rfl ?_
          exact rj_iret dX12_wish_60 rfl (Nat.le_of_ble_eq_true rfl) (Nat.le_of_ble_eq_true rfl) ⟨(by unfold fX12_wish; rw [if_neg h1]; rw [if_neg h3]; rw [if_neg h6]; try rfl), rfl, (by unfold mX12_wish; rw [if_neg h1]; rw [if_neg h3]; rw [if_neg h6]; try rfl)⟩
theorem hSX12_endOf : yX12_endOf.cls ≠ "java/lang/invoke/MethodHandle" ∧ yX12_endOf.cls ≠ "java/lang/invoke/VarHandle" ∧ (parseMethodDescriptor yX12_endOf.desc).map (fun d => d.parameters.length) = some 1 := by decide +kernel
theorem hVX12_endOf : yX12_endOf.cls = RX12 ∧ yX12_endOf.cls ≠ "java/lang/invoke/MethodHandle" ∧ yX12_endOf.cls ≠ "java/lang/invoke/VarHandle" ∧ (parseMethodDescriptor yX12_endOf.desc).map (fun d => d.parameters.length) = some 1 := by decide +kernel
def fX12_endOf (μ : rj_M) (a0 : Int32) : Int32 := ((fX12_its μ a0 2) + (fX12_its μ a0 3))
set_option maxHeartbeats 40000000 in
set_option maxRecDepth 100000 in
theorem sX12_endOf {g : rj_G} {ω : rj_W} (hω : rj_ok ω) (μ : rj_M) (a0 : Int32)  (hp_a0 : vp_in a0 16)  : rj_Sp g yX12_endOf wsX12_endOf (rj_rm 1 0) [.ref (ω.2.2 395), .int a0] ω μ (rj_D (.inl (some (.int (fX12_endOf μ a0)))) ω μ) := by
  refine rj_of' (cc := cX12_endOf) (nL := 2) (ret := (some .int)) (own := RX12) (l0 := [(0, .ref (ω.2.2 395)), (1, .int a0)]) rfl (by decide +kernel) rfl (Nat.le_of_ble_eq_true rfl) rfl ?_
  refine rj_aload_n 0 dX12_endOf_0 rfl rfl ?_
  refine rj_iload_n 1 dX12_endOf_1 rfl rfl ?_
  refine rj_iconst (v := 2) dX12_endOf_2 rfl (by decide) ?_
  refine rj_cV (rest := []) (sX12_its (g := g) (ω := ω) hω μ a0 2  hp_a0 (vp_in_nI (n := 2) (rj_bl rfl) (rj_bl rfl)) ) gX12_endOf_X12_its (rj_lt hω (k := 395) rfl) (rj_sh hω ly_395) rfl rfl hVX12_its ⟨Nat.le_of_ble_eq_true rfl, Nat.le_of_ble_eq_true rfl⟩ dX12_endOf_3 rfl rfl rfl (Nat.le_of_ble_eq_true rfl) rfl (Nat.le_of_ble_eq_true rfl) rfl ?_
  refine rj_aload_n 0 dX12_endOf_6 rfl rfl ?_
  refine rj_iload_n 1 dX12_endOf_7 rfl rfl ?_
  refine rj_iconst (v := 3) dX12_endOf_8 rfl (by decide) ?_
  refine rj_cV (rest := [.int (fX12_its μ a0 2)]) (sX12_its (g := g) (ω := ω) hω μ a0 3  hp_a0 (vp_in_nI (n := 3) (rj_bl rfl) (rj_bl rfl)) ) gX12_endOf_X12_its (rj_lt hω (k := 395) rfl) (rj_sh hω ly_395) rfl rfl hVX12_its ⟨Nat.le_of_ble_eq_true rfl, Nat.le_of_ble_eq_true rfl⟩ dX12_endOf_9 rfl rfl rfl (Nat.le_of_ble_eq_true rfl) rfl (Nat.le_of_ble_eq_true rfl) rfl ?_
  refine rj_iadd dX12_endOf_12 rfl ?_
  exact rj_iret dX12_endOf_13 rfl (Nat.le_of_ble_eq_true rfl) (Nat.le_of_ble_eq_true rfl) ⟨(by unfold fX12_endOf; rfl), rfl, rfl⟩
