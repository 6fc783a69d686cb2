theorem hSX12_isMet : yX12_isMet.cls ≠ "java/lang/invoke/MethodHandle" ∧ yX12_isMet.cls ≠ "java/lang/invoke/VarHandle" ∧ (parseMethodDescriptor yX12_isMet.desc).map (fun d => d.parameters.length) = some 3 := by decide +kernel
theorem hVX12_isMet : yX12_isMet.cls = RX12 ∧ yX12_isMet.cls ≠ "java/lang/invoke/MethodHandle" ∧ yX12_isMet.cls ≠ "java/lang/invoke/VarHandle" ∧ (parseMethodDescriptor yX12_isMet.desc).map (fun d => d.parameters.length) = some 3 := by decide +kernel
theorem vX12_isMet_12 : ∀ w ∈ u_ws RX12 TX12 16, w ∈ wsX12_isMet := by decide +kernel
theorem kX12_isMet_9 : Cond.fieldLink RX12 9 (TX12 1).1 (TX12 1).2.1 (TX12 1).2.2.1 ∈ wsX12_isMet := by decide +kernel
noncomputable def fX12_isMet (μ : rj_M) (a0 : Int32) (a1 : Int32) (a2 : Int32) : Int32 := (if (fX12_isAct μ a0) = 0 then 0 else (if (μ.1 396 (3 + (fX12_its μ a0 1)).toNatClampNeg) = 1 then (if a2 ≤ (fX12_its μ a0 2) then 0 else (if (fX12_endOf μ a0) ≤ a1 then 0 else 1)) else 0))
noncomputable def qX12_isMet (μ : rj_M) (a0 : Int32) (a1 : Int32) (a2 : Int32) : Prop := ((((fX12_isAct μ a0) = 0) → True) ∧ ((¬ ((fX12_isAct μ a0) = 0)) → (vp_in (3 + (fX12_its μ a0 1)) 625 ∧ True)))
set_option maxHeartbeats 40000000 in
set_option maxRecDepth 100000 in
theorem sX12_isMet {g : rj_G} {ω : rj_W} (hω : rj_ok ω) (μ : rj_M) (a0 : Int32) (a1 : Int32) (a2 : Int32)   (hq : qX12_isMet μ a0 a1 a2) : rj_Sp g yX12_isMet wsX12_isMet (rj_rm 2 0) [.ref (ω.2.2 395), .int a0, .int a1, .int a2] ω μ (rj_D (.inl (some (.int (fX12_isMet μ a0 a1 a2)))) ω μ) := by
  have hqa := hq
  unfold qX12_isMet at hqa
  refine rj_of' (cc := cX12_isMet) (nL := 4) (ret := (some .boolean)) (own := RX12) (l0 := [(0, .ref (ω.2.2 395)), (1, .int a0), (2, .int a1), (3, .int a2)]) rfl (by decide +kernel) rfl (Nat.le_of_ble_eq_true rfl) rfl ?_
  refine rj_aload_n 0 dX12_isMet_0 rfl rfl ?_
  refine rj_iload_n 1 dX12_isMet_1 rfl rfl ?_
  refine rj_cV (rest := []) (sX12_isAct (g := g) (ω := ω) hω μ a0   ) gX12_isMet_X12_isAct (rj_lt hω (k := 395) rfl) (rj_sh hω ly_395) rfl rfl hVX12_isAct ⟨Nat.le_of_ble_eq_true rfl, Nat.le_of_ble_eq_true rfl⟩ dX12_isMet_2 rfl rfl rfl (Nat.le_of_ble_eq_true rfl) rfl (Nat.le_of_ble_eq_true rfl) rfl ?_
  refine rj_if_eq dX12_isMet_5 rfl rfl (fun h1 => ?_) (fun h1 => ?_)
  · skip
    refine rj_iconst (v := 0) dX12_isMet_48 rfl (by decide) ?_
    exact rj_zret dX12_isMet_49 rfl rfl (Nat.le_of_ble_eq_true rfl) (Nat.le_of_ble_eq_true rfl) ⟨(by unfold fX12_isMet; rw [if_pos h1]; try rfl), rfl, rfl⟩
  · have hq2 := (And.right hqa) h1
    refine rj_aload_n 0 dX12_isMet_8 rfl rfl ?_
    refine rj_getR (C0 := RX12) (T := TX12) (N := 16) (j := 1) (r := 396) dX12_isMet_9 rfl vX12_isMet_12 rfl (rj_lt hω (k := 395) rfl) (rj_sh hω ly_395) (by decide) kX12_isMet_9 rfl ?_
    refine rj_iconst (v := 3) dX12_isMet_12 rfl (by decide) ?_
    refine rj_aload_n 0 dX12_isMet_13 rfl rfl ?_
    refine rj_iload_n 1 dX12_isMet_14 rfl rfl ?_
    refine rj_iconst (v := 1) dX12_isMet_15 rfl (by decide) ?_
    refine rj_cV (rest := [.int 3, .ref (ω.2.2 396)]) (sX12_its (g := g) (ω := ω) hω μ a0 1  (rj_isAct h1) (vp_in_nI (n := 1) (rj_bl rfl) (rj_bl rfl)) ) gX12_isMet_X12_its (rj_lt hω (k := 395) rfl) (rj_sh hω ly_395) rfl rfl hVX12_its ⟨Nat.le_of_ble_eq_true rfl, Nat.le_of_ble_eq_true rfl⟩ dX12_isMet_16 rfl rfl rfl (Nat.le_of_ble_eq_true rfl) rfl (Nat.le_of_ble_eq_true rfl) rfl ?_
    refine rj_iadd dX12_isMet_19 rfl ?_
    refine rj_iald dX12_isMet_20 rfl (rj_lt hω (k := 396) rfl) (rj_sh hω ly_396) (And.left hq2) ?_
    refine rj_iconst (v := 1) dX12_isMet_21 rfl (by decide) ?_
    refine rj_icmp_ne dX12_isMet_22 rfl rfl (fun h2 => ?_) (fun h2 => ?_)
    · skip
      refine rj_iconst (v := 0) dX12_isMet_48 rfl (by decide) ?_
      exact rj_zret dX12_isMet_49 rfl rfl (Nat.le_of_ble_eq_true rfl) (Nat.le_of_ble_eq_true rfl) ⟨(by unfold fX12_isMet; rw [if_neg h1]; rw [if_neg h2]; try rfl), rfl, rfl⟩
    · skip
      refine rj_aload_n 0 dX12_isMet_25 rfl rfl ?_
      refine rj_iload_n 1 dX12_isMet_26 rfl rfl ?_
      refine rj_iconst (v := 2) dX12_isMet_27 rfl (by decide) ?_
      refine rj_cV (rest := []) (sX12_its (g := g) (ω := ω) hω μ a0 2  (rj_isAct h1) (vp_in_nI (n := 2) (rj_bl rfl) (rj_bl rfl)) ) gX12_isMet_X12_its (rj_lt hω (k := 395) rfl) (rj_sh hω ly_395) rfl rfl hVX12_its ⟨Nat.le_of_ble_eq_true rfl, Nat.le_of_ble_eq_true rfl⟩ dX12_isMet_28 rfl rfl rfl (Nat.le_of_ble_eq_true rfl) rfl (Nat.le_of_ble_eq_true rfl) rfl ?_
      refine rj_iload_n 3 dX12_isMet_31 rfl rfl ?_
      refine rj_icmp_ge dX12_isMet_32 rfl rfl (fun h3 => ?_) (fun h3 => ?_)
      · skip
        refine rj_iconst (v := 0) dX12_isMet_48 rfl (by decide) ?_
        exact rj_zret dX12_isMet_49 rfl rfl (Nat.le_of_ble_eq_true rfl) (Nat.le_of_ble_eq_true rfl) ⟨(by unfold fX12_isMet; rw [if_neg h1]; rw [if_pos h2]; rw [if_pos h3]; try rfl), rfl, rfl⟩
      · skip
        refine rj_aload_n 0 dX12_isMet_35 rfl rfl ?_
        refine rj_iload_n 1 dX12_isMet_36 rfl rfl ?_
        refine rj_cV (rest := []) (sX12_endOf (g := g) (ω := ω) hω μ a0  (rj_isAct h1) ) gX12_isMet_X12_endOf (rj_lt hω (k := 395) rfl) (rj_sh hω ly_395) rfl rfl hVX12_endOf ⟨Nat.le_of_ble_eq_true rfl, Nat.le_of_ble_eq_true rfl⟩ dX12_isMet_37 rfl rfl rfl (Nat.le_of_ble_eq_true rfl) rfl (Nat.le_of_ble_eq_true rfl) rfl ?_
        refine rj_iload_n 2 dX12_isMet_40 rfl rfl ?_
        refine rj_icmp_le dX12_isMet_41 rfl rfl (fun h4 => ?_) (fun h4 => ?_)
        · skip
          refine rj_iconst (v := 0) dX12_isMet_48 rfl (by decide) ?_
          exact rj_zret dX12_isMet_49 rfl rfl (Nat.le_of_ble_eq_true rfl) (Nat.le_of_ble_eq_true rfl) ⟨(by unfold fX12_isMet; rw [if_neg h1]; rw [if_pos h2]; rw [if_neg h3]; rw [if_pos h4]; try rfl), rfl, rfl⟩
        · skip
          refine rj_iconst (v := 1) dX12_isMet_44 rfl (by decide) ?_
          refine rj_goto dX12_isMet_45 rfl ?_
          exact rj_zret dX12_isMet_49 rfl rfl (Nat.le_of_ble_eq_true rfl) (Nat.le_of_ble_eq_true rfl) ⟨(by unfold fX12_isMet; rw [if_neg h1]; rw [if_pos h2]; rw [if_neg h3]; rw [if_neg h4]; try rfl), rfl, rfl⟩
theorem nX12_isMet (μ : rj_M) (a0 : Int32) (a1 : Int32) (a2 : Int32) : narrow .boolean (.int (fX12_isMet μ a0 a1 a2)) = .int (fX12_isMet μ a0 a1 a2) := by
  unfold fX12_isMet
  split
  · rfl
  · split
    · split
      · rfl
      · split
        · rfl
        · rfl
    · rfl
theorem hSX12_canGo : yX12_canGo.cls ≠ "java/lang/invoke/MethodHandle" ∧ yX12_canGo.cls ≠ "java/lang/invoke/VarHandle" ∧ (parseMethodDescriptor yX12_canGo.desc).map (fun d => d.parameters.length) = some 2 := by decide +kernel
theorem hVX12_canGo : yX12_canGo.cls = RX12 ∧ yX12_canGo.cls ≠ "java/lang/invoke/MethodHandle" ∧ yX12_canGo.cls ≠ "java/lang/invoke/VarHandle" ∧ (parseMethodDescriptor yX12_canGo.desc).map (fun d => d.parameters.length) = some 2 := by decide +kernel
theorem vX12_canGo_12 : ∀ w ∈ u_ws RX12 TX12 16, w ∈ wsX12_canGo := by decide +kernel
theorem kX12_canGo_9 : Cond.fieldLink RX12 9 (TX12 1).1 (TX12 1).2.1 (TX12 1).2.2.1 ∈ wsX12_canGo := by decide +kernel
theorem kX12_canGo_33 : Cond.fieldLink RX12 33 (TX12 13).1 (TX12 13).2.1 (TX12 13).2.2.1 ∈ wsX12_canGo := by decide +kernel
noncomputable def bX12_canGo_16 (μ : rj_M) (a0 : Int32) (a1 : Int32) (j16 : Nat) (s16 : Unit) : Unit ⊕ Unit := (if nI j16 = a0 then .inl () else (if (fX12_isAct μ (nI j16)) = 0 then .inl () else (if (fX12_piecesMeet μ (nI j16) a0) = 0 then .inl () else (if (μ.1 436 (nI j16).toNatClampNeg) = (-1) then (if (fX12_its μ (nI j16) 1) = a1 then .inr () else .inl ()) else (if a0 ≤ nI j16 then .inl () else (if (μ.1 436 (nI j16).toNatClampNeg) = a1 then .inr () else .inl ()))))))
set_option maxHeartbeats 4000000 in
set_option maxRecDepth 100000 in
theorem lX12_canGo_16 {g : rj_G} {ω : rj_W} (hω : rj_ok ω) (μ : rj_M) (a0 : Int32) (a1 : Int32)     (hp_a0 : (vp_in a0 16)) (hp_a1 : (vp_in a1 4)) (h1 : ¬ ((μ.1 396 (3 + a1).toNatClampNeg) = 1)) {P : rj_P} : ∀ (r j : Nat) (s : Unit), j + r = 16 → (∀ z : Unit, rj_ix (bX12_canGo_16 μ a0 a1) r j s = .inl z → rj_R g RX12 cX12_canGo 5 (some .boolean) wsX12_canGo [] (rj_rm 3 0) (rj_E g (rj_rm 3 0) P) 0 ω μ [(0, .ref (ω.2.2 395)), (1, .int a0), (2, .int a1), (3, .int (nI 16))] 105 []) → (∀ z : Unit, rj_ix (bX12_canGo_16 μ a0 a1) r j s = .inr z → P (.inl (some (.int 0))) ω μ) → rj_R g RX12 cX12_canGo 5 (some .boolean) wsX12_canGo [] (rj_rm 3 0) (rj_E g (rj_rm 3 0) P) 0 ω μ [(0, .ref (ω.2.2 395)), (1, .int a0), (2, .int a1), (3, .int (nI j))] 16 [] := by
  intro r
  induction r with
  | zero =>
    intro j s hj K K2
    have e0 : j = 16 := by omega
    have hge : 16 ≤ nI j := by
      rw [e0]
      exact Int32.le_refl _
    refine rj_iload_n 3 dX12_canGo_16 rfl rfl ?_
    refine rj_bipush (v := 16) dX12_canGo_17 rfl (by decide) ?_
    refine rj_icmp_ge dX12_canGo_19 rfl rfl (fun h12 => ?_) (fun h12 => ?_)
    · have e1 : nI j = nI 16 := by rw [e0]
      rw [e1]
      exact K s rfl
    · exact absurd hge h12
  | succ r ih =>
    intro j16 s16 hj K K2
    have hl16 : j16 < 16 := by omega
    have hg16 : ¬ 16 ≤ nI j16 := nI_ge hl16 (rj_bl rfl)
    refine rj_iload_n 3 dX12_canGo_16 rfl rfl ?_
    refine rj_bipush (v := 16) dX12_canGo_17 rfl (by decide) ?_
    refine rj_icmp_ge dX12_canGo_19 rfl rfl (fun h2 => ?_) (fun h2 => ?_)
    · exact absurd h2 hg16
    · refine rj_iload_n 3 dX12_canGo_22 rfl rfl ?_
      refine rj_iload_n 1 dX12_canGo_23 rfl rfl ?_
      refine rj_icmp_eq dX12_canGo_24 rfl rfl (fun h3 => ?_) (fun h3 => ?_)
      · refine rj_iinc (v := nI (j16 + 1)) (l' := [(3, .int (nI (j16 + 1))), (0, .ref (ω.2.2 395)), (1, .int a0), (2, .int a1)]) 3 dX12_canGo_99 rfl rfl (nI_succ j16).symm (rj_bl rfl) rfl ?_
        refine rj_goto dX12_canGo_102 rfl ?_
        have e : bX12_canGo_16 μ a0 a1 j16 s16 = .inl () := by unfold bX12_canGo_16; rw [if_pos h3]; try rfl
        exact rj_sub (l' := [(0, .ref (ω.2.2 395)), (1, .int a0), (2, .int a1), (3, .int (nI (j16 + 1)))]) [1, 2, 3, 0] rfl (ih (j16 + 1) () (by omega) (fun z hz => K z (by rw [rj_ix_l e]; exact hz)) (fun z hz => K2 z (by rw [rj_ix_l e]; exact hz)))
      · refine rj_aload_n 0 dX12_canGo_27 rfl rfl ?_
        refine rj_iload_n 3 dX12_canGo_28 rfl rfl ?_
        refine rj_cV (rest := []) (sX12_isAct (g := g) (ω := ω) hω μ (nI j16)   ) gX12_canGo_X12_isAct (rj_lt hω (k := 395) rfl) (rj_sh hω ly_395) rfl rfl hVX12_isAct ⟨Nat.le_of_ble_eq_true rfl, Nat.le_of_ble_eq_true rfl⟩ dX12_canGo_29 rfl rfl rfl (Nat.le_of_ble_eq_true rfl) rfl (Nat.le_of_ble_eq_true rfl) rfl ?_
        refine rj_if_eq dX12_canGo_32 rfl rfl (fun h4 => ?_) (fun h4 => ?_)
        · refine rj_iinc (v := nI (j16 + 1)) (l' := [(3, .int (nI (j16 + 1))), (0, .ref (ω.2.2 395)), (1, .int a0), (2, .int a1)]) 3 dX12_canGo_99 rfl rfl (nI_succ j16).symm (rj_bl rfl) rfl ?_
          refine rj_goto dX12_canGo_102 rfl ?_
          have e : bX12_canGo_16 μ a0 a1 j16 s16 = .inl () := by unfold bX12_canGo_16; rw [if_neg h3]; rw [if_pos h4]; try rfl
          exact rj_sub (l' := [(0, .ref (ω.2.2 395)), (1, .int a0), (2, .int a1), (3, .int (nI (j16 + 1)))]) [1, 2, 3, 0] rfl (ih (j16 + 1) () (by omega) (fun z hz => K z (by rw [rj_ix_l e]; exact hz)) (fun z hz => K2 z (by rw [rj_ix_l e]; exact hz)))
        · refine rj_aload_n 0 dX12_canGo_35 rfl rfl ?_
          refine rj_iload_n 3 dX12_canGo_36 rfl rfl ?_
          refine rj_iload_n 1 dX12_canGo_37 rfl rfl ?_
          refine rj_cV (rest := []) (sX12_piecesMeet (g := g) (ω := ω) hω μ (nI j16) a0  (vp_in_nI hl16 (rj_bl rfl)) hp_a0 ) gX12_canGo_X12_piecesMeet (rj_lt hω (k := 395) rfl) (rj_sh hω ly_395) rfl rfl hVX12_piecesMeet ⟨Nat.le_of_ble_eq_true rfl, Nat.le_of_ble_eq_true rfl⟩ dX12_canGo_38 rfl rfl rfl (Nat.le_of_ble_eq_true rfl) rfl (Nat.le_of_ble_eq_true rfl) rfl ?_
          refine rj_if_ne dX12_canGo_41 rfl rfl (fun h5 => ?_) (fun h5 => ?_)
          · refine rj_aload_n 0 dX12_canGo_47 rfl rfl ?_
            refine rj_getR (C0 := RX12) (T := TX12) (N := 16) (j := 13) (r := 436) dX12_canGo_48 rfl vX12_canGo_12 rfl (rj_lt hω (k := 395) rfl) (rj_sh hω ly_395) (by decide) kX12_canGo_33 rfl ?_
            refine rj_iload_n 3 dX12_canGo_51 rfl rfl ?_
            refine rj_iald dX12_canGo_52 rfl (rj_lt hω (k := 436) rfl) (rj_sh hω ly_436) (vp_in_nI hl16 (rj_bl rfl)) ?_
            refine rj_iconst (v := (-1)) dX12_canGo_53 rfl (by decide) ?_
            refine rj_icmp_eq dX12_canGo_54 rfl rfl (fun h6 => ?_) (fun h6 => ?_)
            · refine rj_iconst (v := 0) dX12_canGo_61 rfl (by decide) ?_
              refine rj_istore (l' := [(4, .int 0), (0, .ref (ω.2.2 395)), (1, .int a0), (2, .int a1), (3, .int (nI j16))]) dX12_canGo_62 rfl (rj_bl rfl) rfl ?_
              refine rj_iload 0 dX12_canGo_64 rfl rfl ?_
              refine rj_if_eq dX12_canGo_66 rfl rfl (fun h7 => ?_) (fun h7 => ?_)
              · refine rj_aload_n 1 dX12_canGo_87 rfl rfl ?_
                refine rj_iload_n 4 dX12_canGo_88 rfl rfl ?_
                refine rj_iconst (v := 1) dX12_canGo_89 rfl (by decide) ?_
                refine rj_cV (rest := []) (sX12_its (g := g) (ω := ω) hω μ (nI j16) 1  (vp_in_nI hl16 (rj_bl rfl)) (vp_in_nI (n := 1) (rj_bl rfl) (rj_bl rfl)) ) gX12_canGo_X12_its (rj_lt hω (k := 395) rfl) (rj_sh hω ly_395) rfl rfl hVX12_its ⟨Nat.le_of_ble_eq_true rfl, Nat.le_of_ble_eq_true rfl⟩ dX12_canGo_90 rfl rfl rfl (Nat.le_of_ble_eq_true rfl) rfl (Nat.le_of_ble_eq_true rfl) rfl ?_
                refine rj_iload_n 3 dX12_canGo_93 rfl rfl ?_
                refine rj_icmp_ne dX12_canGo_94 rfl rfl (fun h8 => ?_) (fun h8 => ?_)
                · refine rj_iinc (v := nI (j16 + 1)) (l' := [(3, .int (nI (j16 + 1))), (4, .int 0), (0, .ref (ω.2.2 395)), (1, .int a0), (2, .int a1)]) 4 dX12_canGo_99 rfl rfl (nI_succ j16).symm (rj_bl rfl) rfl ?_
                  refine rj_goto dX12_canGo_102 rfl ?_
                  have e : bX12_canGo_16 μ a0 a1 j16 s16 = .inl () := by unfold bX12_canGo_16; rw [if_neg h3]; rw [if_neg h4]; rw [if_neg h5]; rw [if_pos h6]; rw [if_neg h8]; try rfl
                  exact rj_sub (l' := [(0, .ref (ω.2.2 395)), (1, .int a0), (2, .int a1), (3, .int (nI (j16 + 1)))]) [2, 3, 4, 0] rfl (ih (j16 + 1) () (by omega) (fun z hz => K z (by rw [rj_ix_l e]; exact hz)) (fun z hz => K2 z (by rw [rj_ix_l e]; exact hz)))
                · refine rj_iconst (v := 0) dX12_canGo_97 rfl (by decide) ?_
                  have e : bX12_canGo_16 μ a0 a1 j16 s16 = .inr () := by unfold bX12_canGo_16; rw [if_neg h3]; rw [if_neg h4]; rw [if_neg h5]; rw [if_pos h6]; rw [if_pos h8]; try rfl
                  exact rj_zret dX12_canGo_98 rfl rfl (Nat.le_of_ble_eq_true rfl) (Nat.le_of_ble_eq_true rfl) (K2 () (rj_ix_r e))
              · exact absurd (by decide) h7
            · refine rj_iconst (v := 1) dX12_canGo_57 rfl (by decide) ?_
              refine rj_goto dX12_canGo_58 rfl ?_
              refine rj_istore (l' := [(4, .int 1), (0, .ref (ω.2.2 395)), (1, .int a0), (2, .int a1), (3, .int (nI j16))]) dX12_canGo_62 rfl (rj_bl rfl) rfl ?_
              refine rj_iload 0 dX12_canGo_64 rfl rfl ?_
              refine rj_if_eq dX12_canGo_66 rfl rfl (fun h9 => ?_) (fun h9 => ?_)
              · exact absurd h9 (by decide)
              · refine rj_iload_n 4 dX12_canGo_69 rfl rfl ?_
                refine rj_iload_n 2 dX12_canGo_70 rfl rfl ?_
                refine rj_icmp_ge dX12_canGo_71 rfl rfl (fun h10 => ?_) (fun h10 => ?_)
                · refine rj_iinc (v := nI (j16 + 1)) (l' := [(3, .int (nI (j16 + 1))), (4, .int 1), (0, .ref (ω.2.2 395)), (1, .int a0), (2, .int a1)]) 4 dX12_canGo_99 rfl rfl (nI_succ j16).symm (rj_bl rfl) rfl ?_
                  refine rj_goto dX12_canGo_102 rfl ?_
                  have e : bX12_canGo_16 μ a0 a1 j16 s16 = .inl () := by unfold bX12_canGo_16; rw [if_neg h3]; rw [if_neg h4]; rw [if_neg h5]; rw [if_neg h6]; rw [if_pos h10]; try rfl
                  exact rj_sub (l' := [(0, .ref (ω.2.2 395)), (1, .int a0), (2, .int a1), (3, .int (nI (j16 + 1)))]) [2, 3, 4, 0] rfl (ih (j16 + 1) () (by omega) (fun z hz => K z (by rw [rj_ix_l e]; exact hz)) (fun z hz => K2 z (by rw [rj_ix_l e]; exact hz)))
                · refine rj_aload_n 1 dX12_canGo_74 rfl rfl ?_
                  refine rj_getR (C0 := RX12) (T := TX12) (N := 16) (j := 13) (r := 436) dX12_canGo_75 rfl vX12_canGo_12 rfl (rj_lt hω (k := 395) rfl) (rj_sh hω ly_395) (by decide) kX12_canGo_33 rfl ?_
                  refine rj_iload_n 4 dX12_canGo_78 rfl rfl ?_
                  refine rj_iald dX12_canGo_79 rfl (rj_lt hω (k := 436) rfl) (rj_sh hω ly_436) (vp_in_nI hl16 (rj_bl rfl)) ?_
                  refine rj_iload_n 3 dX12_canGo_80 rfl rfl ?_
                  refine rj_icmp_ne dX12_canGo_81 rfl rfl (fun h11 => ?_) (fun h11 => ?_)
                  · refine rj_iinc (v := nI (j16 + 1)) (l' := [(3, .int (nI (j16 + 1))), (4, .int 1), (0, .ref (ω.2.2 395)), (1, .int a0), (2, .int a1)]) 4 dX12_canGo_99 rfl rfl (nI_succ j16).symm (rj_bl rfl) rfl ?_
                    refine rj_goto dX12_canGo_102 rfl ?_
                    have e : bX12_canGo_16 μ a0 a1 j16 s16 = .inl () := by unfold bX12_canGo_16; rw [if_neg h3]; rw [if_neg h4]; rw [if_neg h5]; rw [if_neg h6]; rw [if_neg h10]; rw [if_neg h11]; try rfl
                    exact rj_sub (l' := [(0, .ref (ω.2.2 395)), (1, .int a0), (2, .int a1), (3, .int (nI (j16 + 1)))]) [2, 3, 4, 0] rfl (ih (j16 + 1) () (by omega) (fun z hz => K z (by rw [rj_ix_l e]; exact hz)) (fun z hz => K2 z (by rw [rj_ix_l e]; exact hz)))
                  · refine rj_goto dX12_canGo_84 rfl ?_
                    refine rj_iconst (v := 0) dX12_canGo_97 rfl (by decide) ?_
                    have e : bX12_canGo_16 μ a0 a1 j16 s16 = .inr () := by unfold bX12_canGo_16; rw [if_neg h3]; rw [if_neg h4]; rw [if_neg h5]; rw [if_neg h6]; rw [if_neg h10]; rw [if_pos h11]; try rfl
                    exact rj_zret dX12_canGo_98 rfl rfl (Nat.le_of_ble_eq_true rfl) (Nat.le_of_ble_eq_true rfl) (K2 () (rj_ix_r e))
          · refine rj_goto dX12_canGo_44 rfl ?_
            refine rj_iinc (v := nI (j16 + 1)) (l' := [(3, .int (nI (j16 + 1))), (0, .ref (ω.2.2 395)), (1, .int a0), (2, .int a1)]) 3 dX12_canGo_99 rfl rfl (nI_succ j16).symm (rj_bl rfl) rfl ?_
            refine rj_goto dX12_canGo_102 rfl ?_
            have e : bX12_canGo_16 μ a0 a1 j16 s16 = .inl () := by unfold bX12_canGo_16; rw [if_neg h3]; rw [if_neg h4]; rw [if_pos h5]; try rfl
            exact rj_sub (l' := [(0, .ref (ω.2.2 395)), (1, .int a0), (2, .int a1), (3, .int (nI (j16 + 1)))]) [1, 2, 3, 0] rfl (ih (j16 + 1) () (by omega) (fun z hz => K z (by rw [rj_ix_l e]; exact hz)) (fun z hz => K2 z (by rw [rj_ix_l e]; exact hz)))
noncomputable def fX12_canGo (μ : rj_M) (a0 : Int32) (a1 : Int32) : Int32 := (if (μ.1 396 (3 + a1).toNatClampNeg) = 1 then 0 else (Sum.elim (fun z16 => 1) (fun w16 => 0) (rj_ix (bX12_canGo_16 μ a0 a1) 16 0 ())))
set_option maxHeartbeats 40000000 in
set_option maxRecDepth 100000 in
theorem sX12_canGo {g : rj_G} {ω : rj_W} (hω : rj_ok ω) (μ : rj_M) (a0 : Int32) (a1 : Int32)  (hp_a0 : vp_in a0 16) (hp_a1 : vp_in a1 4)  : rj_Sp g yX12_canGo wsX12_canGo (rj_rm 3 0) [.ref (ω.2.2 395), .int a0, .int a1] ω μ (rj_D (.inl (some (.int (fX12_canGo μ a0 a1)))) ω μ) := by
  refine rj_of' (cc := cX12_canGo) (nL := 5) (ret := (some .boolean)) (own := RX12) (l0 := [(0, .ref (ω.2.2 395)), (1, .int a0), (2, .int a1)]) rfl (by decide +kernel) rfl (Nat.le_of_ble_eq_true rfl) rfl ?_
  refine rj_aload_n 0 dX12_canGo_0 rfl rfl ?_
  refine rj_getR (C0 := RX12) (T := TX12) (N := 16) (j := 1) (r := 396) dX12_canGo_1 rfl vX12_canGo_12 rfl (rj_lt hω (k := 395) rfl) (rj_sh hω ly_395) (by decide) kX12_canGo_9 rfl ?_
  refine rj_iconst (v := 3) dX12_canGo_4 rfl (by decide) ?_
  refine rj_iload_n 2 dX12_canGo_5 rfl rfl ?_
  refine rj_iadd dX12_canGo_6 rfl ?_
  refine rj_iald dX12_canGo_7 rfl (rj_lt hω (k := 396) rfl) (rj_sh hω ly_396) (rj_vle (rj_vadd (N := 7) (vp_in_nI (n := 3) (N := 4) (rj_bl rfl) (rj_bl rfl)) hp_a1 rfl rfl) rfl) ?_
  refine rj_iconst (v := 1) dX12_canGo_8 rfl (by decide) ?_
  refine rj_icmp_ne dX12_canGo_9 rfl rfl (fun h1 => ?_) (fun h1 => ?_)
  · refine rj_iconst (v := 0) dX12_canGo_14 rfl (by decide) ?_
    refine rj_istore_n (l' := [(3, .int 0), (0, .ref (ω.2.2 395)), (1, .int a0), (2, .int a1)]) dX12_canGo_15 rfl (rj_bl rfl) rfl ?_
    refine rj_sub (l' := [(0, .ref (ω.2.2 395)), (1, .int a0), (2, .int a1), (3, .int (nI 0))]) [1, 2, 3, 0] rfl ?_
    refine lX12_canGo_16 hω μ a0 a1     hp_a0 hp_a1 h1 16 0 () rfl (fun z16 hz16 => ?_) (fun w16 hw16 => ?_)
    · refine rj_iconst (v := 1) dX12_canGo_105 rfl (by decide) ?_
      exact rj_zret dX12_canGo_106 rfl rfl (Nat.le_of_ble_eq_true rfl) (Nat.le_of_ble_eq_true rfl) ⟨(by unfold fX12_canGo; rw [if_neg h1]; rw [hz16]; simp only [Sum.elim_inl]; try rfl), rfl, rfl⟩
    · exact ⟨(by unfold fX12_canGo; rw [if_neg h1]; rw [hw16]; simp only [Sum.elim_inr]; try rfl), rfl, rfl⟩
  · refine rj_iconst (v := 0) dX12_canGo_12 rfl (by decide) ?_
    exact rj_zret dX12_canGo_13 rfl rfl (Nat.le_of_ble_eq_true rfl) (Nat.le_of_ble_eq_true rfl) ⟨(by unfold fX12_canGo; rw [if_pos h1]; try rfl), rfl, rfl⟩
theorem nX12_canGo (μ : rj_M) (a0 : Int32) (a1 : Int32) : narrow .boolean (.int (fX12_canGo μ a0 a1)) = .int (fX12_canGo μ a0 a1) := by
  unfold fX12_canGo
  split
  · rfl
  · generalize (rj_ix (bX12_canGo_16 μ a0 a1) 16 0 ()) = x
    cases x with
    | inl z16 =>
      simp only [Sum.elim_inl]
      rfl
    | inr w16 =>
      simp only [Sum.elim_inr]
      rfl
