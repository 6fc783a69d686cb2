theorem hSX12_price : yX12_price.cls ≠ "java/lang/invoke/MethodHandle" ∧ yX12_price.cls ≠ "java/lang/invoke/VarHandle" ∧ (parseMethodDescriptor yX12_price.desc).map (fun d => d.parameters.length) = some 2 := by decide +kernel
theorem hVX12_price : yX12_price.cls = RX12 ∧ yX12_price.cls ≠ "java/lang/invoke/MethodHandle" ∧ yX12_price.cls ≠ "java/lang/invoke/VarHandle" ∧ (parseMethodDescriptor yX12_price.desc).map (fun d => d.parameters.length) = some 2 := by decide +kernel
theorem vX12_price_12 : ∀ w ∈ u_ws RX12 TX12 16, w ∈ wsX12_price := by decide +kernel
theorem kX12_price_18 : Cond.fieldLink RX12 18 (TX12 6).1 (TX12 6).2.1 (TX12 6).2.2.1 ∈ wsX12_price := by decide +kernel
noncomputable def fX12_price (μ : rj_M) (a0 : Int32) (a1 : Int32) : Int32 := (if (fX12_isVisitor μ a0) = 0 then 0 else (if (fX12_isAct μ a1) = 0 then 0 else ((mX12_findsPrices (mX12_lacksT μ) a0 ((fX12_its (mX12_lacksT μ) a1 2) / 1440)).1 406 a1.toNatClampNeg)))
noncomputable def mX12_price (μ : rj_M) (a0 : Int32) (a1 : Int32) : rj_M := (if (fX12_isVisitor μ a0) = 0 then (mX12_lacksF μ) else (if (fX12_isAct μ a1) = 0 then (mX12_lacksF μ) else (mX12_findsPrices (mX12_lacksT μ) a0 ((fX12_its (mX12_lacksT μ) a1 2) / 1440))))
noncomputable def qX12_price (μ : rj_M) (a0 : Int32) (a1 : Int32) : Prop := ((((fX12_isVisitor μ a0) = 0) → True) ∧ ((¬ ((fX12_isVisitor μ a0) = 0)) → ((((fX12_isAct μ a1) = 0) → True) ∧ ((¬ ((fX12_isAct μ a1) = 0)) → (qX12_findsPrices (mX12_lacksT μ) a0 ((fX12_its (mX12_lacksT μ) a1 2) / 1440) ∧ True)))))
set_option maxHeartbeats 40000000 in
set_option maxRecDepth 100000 in
theorem sX12_price {g : rj_G} {ω : rj_W} (hω : rj_ok ω) (μ : rj_M) (a0 : Int32) (a1 : Int32)   (hq : qX12_price μ a0 a1) : rj_Sp g yX12_price wsX12_price (rj_rm 4 0) [.ref (ω.2.2 395), .int a0, .int a1] ω μ (rj_D (.inl (some (.int (fX12_price μ a0 a1)))) ω (mX12_price μ a0 a1)) := by
  have hqa := hq
  unfold qX12_price at hqa
  refine rj_of' (cc := cX12_price) (nL := 3) (ret := (some .int)) (own := RX12) (l0 := [(0, .ref (ω.2.2 395)), (1, .int a0), (2, .int a1)]) rfl (by decide +kernel) rfl (Nat.le_of_ble_eq_true rfl) rfl ?_
  refine rj_aload_n 0 dX12_price_0 rfl rfl ?_
  refine rj_iload_n 1 dX12_price_1 rfl rfl ?_
  refine rj_cS (rest := [.ref (ω.2.2 395)]) (sX12_isVisitor (g := g) (ω := ω) hω μ a0   ) gX12_price_X12_isVisitor rfl hSX12_isVisitor ⟨Nat.le_of_ble_eq_true rfl, Nat.le_of_ble_eq_true rfl⟩ dX12_price_2 rfl rfl rfl (Nat.le_of_ble_eq_true rfl) rfl (Nat.le_of_ble_eq_true rfl) rfl ?_
  refine rj_if_eq dX12_price_5 rfl rfl (fun h1 => ?_) (fun h1 => ?_)
  · skip
    refine rj_iconst (v := 0) dX12_price_20 rfl (by decide) ?_
    refine rj_cV (rest := []) (sX12_lacksF (g := g) (ω := ω) hω μ   ) gX12_price_X12_lacks (rj_lt hω (k := 395) rfl) (rj_sh hω ly_395) rfl rfl hVX12_lacks ⟨Nat.le_of_ble_eq_true rfl, Nat.le_of_ble_eq_true rfl⟩ dX12_price_21 rfl rfl rfl (Nat.le_of_ble_eq_true rfl) rfl (Nat.le_of_ble_eq_true rfl) rfl ?_
    refine rj_if_eq dX12_price_24 rfl rfl (fun h2 => ?_) (fun h2 => ?_)
    · exact absurd h2 (by decide)
    · refine rj_iconst (v := 0) dX12_price_27 rfl (by decide) ?_
      exact rj_iret dX12_price_28 rfl (Nat.le_of_ble_eq_true rfl) (Nat.le_of_ble_eq_true rfl) ⟨(by unfold fX12_price; rw [if_pos h1]; try rfl), rfl, (by unfold mX12_price; rw [if_pos h1]; try rfl)⟩
  · have hq2 := (And.right hqa) h1
    refine rj_aload_n 0 dX12_price_8 rfl rfl ?_
    refine rj_iload_n 2 dX12_price_9 rfl rfl ?_
    refine rj_cV (rest := [.ref (ω.2.2 395)]) (sX12_isAct (g := g) (ω := ω) hω μ a1   ) gX12_price_X12_isAct (rj_lt hω (k := 395) rfl) (rj_sh hω ly_395) rfl rfl hVX12_isAct ⟨Nat.le_of_ble_eq_true rfl, Nat.le_of_ble_eq_true rfl⟩ dX12_price_10 rfl rfl rfl (Nat.le_of_ble_eq_true rfl) rfl (Nat.le_of_ble_eq_true rfl) rfl ?_
    refine rj_if_eq dX12_price_13 rfl rfl (fun h3 => ?_) (fun h3 => ?_)
    · skip
      refine rj_iconst (v := 0) dX12_price_20 rfl (by decide) ?_
      refine rj_cV (rest := []) (sX12_lacksF (g := g) (ω := ω) hω μ   ) gX12_price_X12_lacks (rj_lt hω (k := 395) rfl) (rj_sh hω ly_395) rfl rfl hVX12_lacks ⟨Nat.le_of_ble_eq_true rfl, Nat.le_of_ble_eq_true rfl⟩ dX12_price_21 rfl rfl rfl (Nat.le_of_ble_eq_true rfl) rfl (Nat.le_of_ble_eq_true rfl) rfl ?_
      refine rj_if_eq dX12_price_24 rfl rfl (fun h4 => ?_) (fun h4 => ?_)
      · exact absurd h4 (by decide)
      · refine rj_iconst (v := 0) dX12_price_27 rfl (by decide) ?_
        exact rj_iret dX12_price_28 rfl (Nat.le_of_ble_eq_true rfl) (Nat.le_of_ble_eq_true rfl) ⟨(by unfold fX12_price; rw [if_neg h1]; rw [if_pos h3]; try rfl), rfl, (by unfold mX12_price; rw [if_neg h1]; rw [if_pos h3]; try rfl)⟩
    · have hq4 := (And.right hq2) h3
      refine rj_iconst (v := 1) dX12_price_16 rfl (by decide) ?_
      refine rj_goto dX12_price_17 rfl ?_
      refine rj_cV (rest := []) (sX12_lacksT (g := g) (ω := ω) hω μ   ) gX12_price_X12_lacks (rj_lt hω (k := 395) rfl) (rj_sh hω ly_395) rfl rfl hVX12_lacks ⟨Nat.le_of_ble_eq_true rfl, Nat.le_of_ble_eq_true rfl⟩ dX12_price_21 rfl rfl rfl (Nat.le_of_ble_eq_true rfl) rfl (Nat.le_of_ble_eq_true rfl) rfl ?_
      refine rj_if_eq dX12_price_24 rfl rfl (fun h5 => ?_) (fun h5 => ?_)
      · refine rj_aload_n 0 dX12_price_29 rfl rfl ?_
        refine rj_iload_n 1 dX12_price_30 rfl rfl ?_
        refine rj_aload_n 0 dX12_price_31 rfl rfl ?_
        refine rj_iload_n 2 dX12_price_32 rfl rfl ?_
        refine rj_iconst (v := 2) dX12_price_33 rfl (by decide) ?_
        refine rj_cV (rest := [.int a0, .ref (ω.2.2 395)]) (sX12_its (g := g) (ω := ω) hω (mX12_lacksT μ) a1 2  (rj_isAct h3) (vp_in_nI (n := 2) (rj_bl rfl) (rj_bl rfl)) ) gX12_price_X12_its (rj_lt hω (k := 395) rfl) (rj_sh hω ly_395) rfl rfl hVX12_its ⟨Nat.le_of_ble_eq_true rfl, Nat.le_of_ble_eq_true rfl⟩ dX12_price_34 rfl rfl rfl (Nat.le_of_ble_eq_true rfl) rfl (Nat.le_of_ble_eq_true rfl) rfl ?_
        refine rj_sipush (v := 1440) dX12_price_37 rfl (by decide) ?_
        refine rj_idiv dX12_price_40 rfl (by decide) ?_
        refine rj_cV (rest := []) (sX12_findsPrices (g := g) (ω := ω) hω (mX12_lacksT μ) a0 ((fX12_its (mX12_lacksT μ) a1 2) / 1440)  (rj_isVisitor h1) (And.left hq4)) gX12_price_X12_findsPrices (rj_lt hω (k := 395) rfl) (rj_sh hω ly_395) rfl rfl hVX12_findsPrices ⟨Nat.le_of_ble_eq_true rfl, Nat.le_of_ble_eq_true rfl⟩ dX12_price_41 rfl rfl rfl (Nat.le_of_ble_eq_true rfl) rfl (Nat.le_of_ble_eq_true rfl) rfl ?_
        refine rj_aload_n 0 dX12_price_44 rfl rfl ?_
        refine rj_getR (C0 := RX12) (T := TX12) (N := 16) (j := 6) (r := 406) dX12_price_45 rfl vX12_price_12 rfl (rj_lt hω (k := 395) rfl) (rj_sh hω ly_395) (by decide) kX12_price_18 rfl ?_
        refine rj_iload_n 2 dX12_price_48 rfl rfl ?_
        refine rj_iald dX12_price_49 rfl (rj_lt hω (k := 406) rfl) (rj_sh hω ly_406) (rj_isAct h3) ?_
        exact rj_iret dX12_price_50 rfl (Nat.le_of_ble_eq_true rfl) (Nat.le_of_ble_eq_true rfl) ⟨(by unfold fX12_price; rw [if_neg h1]; rw [if_neg h3]; try rfl), rfl, (by unfold mX12_price; rw [if_neg h1]; rw [if_neg h3]; try rfl)⟩
      · exact absurd (by decide) h5
theorem hSX12_isListening : yX12_isListening.cls ≠ "java/lang/invoke/MethodHandle" ∧ yX12_isListening.cls ≠ "java/lang/invoke/VarHandle" ∧ (parseMethodDescriptor yX12_isListening.desc).map (fun d => d.parameters.length) = some 3 := by decide +kernel
theorem hVX12_isListening : yX12_isListening.cls = RX12 ∧ yX12_isListening.cls ≠ "java/lang/invoke/MethodHandle" ∧ yX12_isListening.cls ≠ "java/lang/invoke/VarHandle" ∧ (parseMethodDescriptor yX12_isListening.desc).map (fun d => d.parameters.length) = some 3 := by decide +kernel
theorem vX12_isListening_12 : ∀ w ∈ u_ws RX12 TX12 16, w ∈ wsX12_isListening := by decide +kernel
theorem kX12_isListening_163 : Cond.fieldLink RX12 163 (TX12 8).1 (TX12 8).2.1 (TX12 8).2.2.1 ∈ wsX12_isListening := by decide +kernel
theorem kX12_isListening_21 : Cond.fieldLink RX12 21 (TX12 7).1 (TX12 7).2.1 (TX12 7).2.2.1 ∈ wsX12_isListening := by decide +kernel
noncomputable def bX12_isListening_24 (μ : rj_M) (a0 : Int32) (a1 : Int32) (a2 : Int32) (j6 : Nat) (s6 : Int32 × rj_M) (j24 : Nat) (s24 : Int32) : Int32 ⊕ (Nat × Int32) := (if (fX12_findsEvening s6.2 a0 (nI j6)) ≤ 0 then .inr (j24, s24) else (if s24 = 0 then (if (fX12_its (mX12_findsEvening s6.2 a0 (nI j6)) ((mX12_findsEvening s6.2 a0 (nI j6)).1 407 (nI j24).toNatClampNeg) 1) = a1 then (if a2 < (fX12_its (mX12_findsEvening s6.2 a0 (nI j6)) ((mX12_findsEvening s6.2 a0 (nI j6)).1 407 (nI j24).toNatClampNeg) 2) then .inl 0 else (if (fX12_endOf (mX12_findsEvening s6.2 a0 (nI j6)) ((mX12_findsEvening s6.2 a0 (nI j6)).1 407 (nI j24).toNatClampNeg)) ≤ a2 then .inl 0 else .inl 1)) else .inl 0) else .inl 1))
noncomputable def qX12_isListening_24 (μ : rj_M) (a0 : Int32) (a1 : Int32) (a2 : Int32) (j6 : Nat) (s6 : Int32 × rj_M) (j24 : Nat) (s24 : Int32) : Prop := ((((fX12_findsEvening s6.2 a0 (nI j6)) ≤ 0) → True) ∧ ((¬ ((fX12_findsEvening s6.2 a0 (nI j6)) ≤ 0)) → (((s24 = 0) → (vp_in (nI j24) 16 ∧ vp_in ((mX12_findsEvening s6.2 a0 (nI j6)).1 407 (nI j24).toNatClampNeg) 16 ∧ ((((fX12_its (mX12_findsEvening s6.2 a0 (nI j6)) ((mX12_findsEvening s6.2 a0 (nI j6)).1 407 (nI j24).toNatClampNeg) 1) = a1) → (vp_in (nI j24) 16 ∧ vp_in ((mX12_findsEvening s6.2 a0 (nI j6)).1 407 (nI j24).toNatClampNeg) 16 ∧ (((a2 < (fX12_its (mX12_findsEvening s6.2 a0 (nI j6)) ((mX12_findsEvening s6.2 a0 (nI j6)).1 407 (nI j24).toNatClampNeg) 2)) → True) ∧ ((¬ (a2 < (fX12_its (mX12_findsEvening s6.2 a0 (nI j6)) ((mX12_findsEvening s6.2 a0 (nI j6)).1 407 (nI j24).toNatClampNeg) 2))) → (vp_in (nI j24) 16 ∧ vp_in ((mX12_findsEvening s6.2 a0 (nI j6)).1 407 (nI j24).toNatClampNeg) 16 ∧ True))))) ∧ ((¬ ((fX12_its (mX12_findsEvening s6.2 a0 (nI j6)) ((mX12_findsEvening s6.2 a0 (nI j6)).1 407 (nI j24).toNatClampNeg) 1) = a1)) → True)))) ∧ ((¬ (s24 = 0)) → True))))
set_option maxHeartbeats 4000000 in
set_option maxRecDepth 100000 in
theorem lX12_isListening_24 {g : rj_G} {ω : rj_W} (hω : rj_ok ω) (μ : rj_M) (a0 : Int32) (a1 : Int32) (a2 : Int32) (j6 : Nat) (s6 : Int32 × rj_M)   (hl6 : j6 < 4)  (hp_a0 : (vp_in a0 12)) (h1 : ¬ (4 ≤ nI j6)) {F : rj_F} : ∀ (r j : Nat) (s : Int32), r = ((mX12_findsEvening s6.2 a0 (nI j6)).1 395 8).toInt.toNat - j → j < 2 ^ 31 → (True → ra_ix (qX12_isListening_24 μ a0 a1 a2 j6 s6) (bX12_isListening_24 μ a0 a1 a2 j6 s6) r j s) → (rj_R g RX12 cX12_isListening 8 (some .boolean) wsX12_isListening [] (rj_rm 5 0) F 0 ω (mX12_findsEvening s6.2 a0 (nI j6)) [(0, .ref (ω.2.2 395)), (1, .int a0), (2, .int a1), (3, .int a2), (4, .int ((rj_br (bX12_isListening_24 μ a0 a1 a2 j6 s6) r j s).2)), (5, .int (nI j6)), (6, .int (fX12_findsEvening s6.2 a0 (nI j6))), (7, .int (nI (rj_br (bX12_isListening_24 μ a0 a1 a2 j6 s6) r j s).1))] 103 []) → rj_R g RX12 cX12_isListening 8 (some .boolean) wsX12_isListening [] (rj_rm 5 0) F 0 ω (mX12_findsEvening s6.2 a0 (nI j6)) [(0, .ref (ω.2.2 395)), (1, .int a0), (2, .int a1), (3, .int a2), (4, .int s), (5, .int (nI j6)), (6, .int (fX12_findsEvening s6.2 a0 (nI j6))), (7, .int (nI j))] 24 [] := by
  intro r
  induction r with
  | zero =>
    intro j s hj hJ hq0 K
    have e0 : ((mX12_findsEvening s6.2 a0 (nI j6)).1 395 8).toInt.toNat ≤ j := by omega
    have hge : ((mX12_findsEvening s6.2 a0 (nI j6)).1 395 8) ≤ nI j := (rj_leN hJ).mpr e0
    refine rj_iload 7 dX12_isListening_24 rfl rfl ?_
    refine rj_aload_n 0 dX12_isListening_26 rfl rfl ?_
    refine rj_getI (C0 := RX12) (T := TX12) (N := 16) (j := 8) dX12_isListening_27 rfl vX12_isListening_12 rfl (rj_lt hω (k := 395) rfl) (rj_sh hω ly_395) (by decide) kX12_isListening_163 rfl ?_
    refine rj_icmp_ge dX12_isListening_30 rfl rfl (fun h8 => ?_) (fun h8 => ?_)
    · rw [rj_br_0] at K
      exact K
    · exact absurd hge h8
  | succ r ih =>
    intro j24 s24 hj hJ hq0 K
    have hl24 : j24 < ((mX12_findsEvening s6.2 a0 (nI j6)).1 395 8).toInt.toNat := by omega
    have hg24 : ¬ ((mX12_findsEvening s6.2 a0 (nI j6)).1 395 8) ≤ nI j24 := fun z => absurd ((rj_leN hJ).mp z) (by omega)
    have hN := rj_tN ((mX12_findsEvening s6.2 a0 (nI j6)).1 395 8)
    have hqa := ra_ix_q (hq0 True.intro)
    unfold qX12_isListening_24 at hqa
    refine rj_iload 7 dX12_isListening_24 rfl rfl ?_
    refine rj_aload_n 0 dX12_isListening_26 rfl rfl ?_
    refine rj_getI (C0 := RX12) (T := TX12) (N := 16) (j := 8) dX12_isListening_27 rfl vX12_isListening_12 rfl (rj_lt hω (k := 395) rfl) (rj_sh hω ly_395) (by decide) kX12_isListening_163 rfl ?_
    refine rj_icmp_ge dX12_isListening_30 rfl rfl (fun h2 => ?_) (fun h2 => ?_)
    · exact absurd h2 hg24
    · refine rj_iload 6 dX12_isListening_33 rfl rfl ?_
      refine rj_if_le dX12_isListening_35 rfl rfl (fun h3 => ?_) (fun h3 => ?_)
      · skip
        have e : bX12_isListening_24 μ a0 a1 a2 j6 s6 j24 s24 = .inr (j24, s24) := by unfold bX12_isListening_24; rw [if_pos h3]; try rfl
        exact rj_sub (l' := [(0, .ref (ω.2.2 395)), (1, .int a0), (2, .int a1), (3, .int a2), (4, .int s24), (5, .int (nI j6)), (6, .int (fX12_findsEvening s6.2 a0 (nI j6))), (7, .int (nI j24))]) [0, 1, 2, 3, 4, 5, 6, 7] rfl (by rw [rj_br_r e] at K; exact K)
      · have hq2 := (And.right hqa) h3
        refine rj_iload 4 dX12_isListening_38 rfl rfl ?_
        refine rj_if_ne dX12_isListening_40 rfl rfl (fun h4 => ?_) (fun h4 => ?_)
        · skip
          refine rj_iconst (v := 1) dX12_isListening_90 rfl (by decide) ?_
          refine rj_goto dX12_isListening_91 rfl ?_
          refine rj_istore (l' := [(4, .int 1), (0, .ref (ω.2.2 395)), (1, .int a0), (2, .int a1), (3, .int a2), (5, .int (nI j6)), (6, .int (fX12_findsEvening s6.2 a0 (nI j6))), (7, .int (nI j24))]) dX12_isListening_95 rfl (rj_bl rfl) rfl ?_
          refine rj_iinc (v := nI (j24 + 1)) (l' := [(7, .int (nI (j24 + 1))), (4, .int 1), (0, .ref (ω.2.2 395)), (1, .int a0), (2, .int a1), (3, .int a2), (5, .int (nI j6)), (6, .int (fX12_findsEvening s6.2 a0 (nI j6)))]) 7 dX12_isListening_97 rfl rfl (nI_succ j24).symm (rj_bl rfl) rfl ?_
          refine rj_goto dX12_isListening_100 rfl ?_
          have e : bX12_isListening_24 μ a0 a1 a2 j6 s6 j24 s24 = .inl 1 := by unfold bX12_isListening_24; rw [if_neg h3]; rw [if_neg h4]; try rfl
          exact rj_sub (l' := [(0, .ref (ω.2.2 395)), (1, .int a0), (2, .int a1), (3, .int a2), (4, .int 1), (5, .int (nI j6)), (6, .int (fX12_findsEvening s6.2 a0 (nI j6))), (7, .int (nI (j24 + 1)))]) [2, 3, 4, 5, 1, 6, 7, 0] rfl (ih (j24 + 1) 1 (by omega) (by omega) (fun _ => ra_ix_n (hq0 True.intro) e) (by rw [rj_br_l e] at K; exact K))
        · have hq4 := (And.left hq2) h4
          refine rj_aload_n 0 dX12_isListening_43 rfl rfl ?_
          refine rj_aload_n 0 dX12_isListening_44 rfl rfl ?_
          refine rj_getR (C0 := RX12) (T := TX12) (N := 16) (j := 7) (r := 407) dX12_isListening_45 rfl vX12_isListening_12 rfl (rj_lt hω (k := 395) rfl) (rj_sh hω ly_395) (by decide) kX12_isListening_21 rfl ?_
          refine rj_iload 7 dX12_isListening_48 rfl rfl ?_
          refine rj_iald dX12_isListening_50 rfl (rj_lt hω (k := 407) rfl) (rj_sh hω ly_407) (And.left hq4) ?_
          refine rj_iconst (v := 1) dX12_isListening_51 rfl (by decide) ?_
          refine rj_cV (rest := []) (sX12_its (g := g) (ω := ω) hω (mX12_findsEvening s6.2 a0 (nI j6)) ((mX12_findsEvening s6.2 a0 (nI j6)).1 407 (nI j24).toNatClampNeg) 1  (And.left (And.right hq4)) (vp_in_nI (n := 1) (rj_bl rfl) (rj_bl rfl)) ) gX12_isListening_X12_its (rj_lt hω (k := 395) rfl) (rj_sh hω ly_395) rfl rfl hVX12_its ⟨Nat.le_of_ble_eq_true rfl, Nat.le_of_ble_eq_true rfl⟩ dX12_isListening_52 rfl rfl rfl (Nat.le_of_ble_eq_true rfl) rfl (Nat.le_of_ble_eq_true rfl) rfl ?_
          refine rj_iload_n 2 dX12_isListening_55 rfl rfl ?_
          refine rj_icmp_ne dX12_isListening_56 rfl rfl (fun h5 => ?_) (fun h5 => ?_)
          · skip
            refine rj_iconst (v := 0) dX12_isListening_94 rfl (by decide) ?_
            refine rj_istore (l' := [(4, .int 0), (0, .ref (ω.2.2 395)), (1, .int a0), (2, .int a1), (3, .int a2), (5, .int (nI j6)), (6, .int (fX12_findsEvening s6.2 a0 (nI j6))), (7, .int (nI j24))]) dX12_isListening_95 rfl (rj_bl rfl) rfl ?_
            refine rj_iinc (v := nI (j24 + 1)) (l' := [(7, .int (nI (j24 + 1))), (4, .int 0), (0, .ref (ω.2.2 395)), (1, .int a0), (2, .int a1), (3, .int a2), (5, .int (nI j6)), (6, .int (fX12_findsEvening s6.2 a0 (nI j6)))]) 7 dX12_isListening_97 rfl rfl (nI_succ j24).symm (rj_bl rfl) rfl ?_
            refine rj_goto dX12_isListening_100 rfl ?_
            have e : bX12_isListening_24 μ a0 a1 a2 j6 s6 j24 s24 = .inl 0 := by unfold bX12_isListening_24; rw [if_neg h3]; rw [if_pos h4]; rw [if_neg h5]; try rfl
            exact rj_sub (l' := [(0, .ref (ω.2.2 395)), (1, .int a0), (2, .int a1), (3, .int a2), (4, .int 0), (5, .int (nI j6)), (6, .int (fX12_findsEvening s6.2 a0 (nI j6))), (7, .int (nI (j24 + 1)))]) [2, 3, 4, 5, 1, 6, 7, 0] rfl (ih (j24 + 1) 0 (by omega) (by omega) (fun _ => ra_ix_n (hq0 True.intro) e) (by rw [rj_br_l e] at K; exact K))
          · have hq6 := (And.left (And.right (And.right hq4))) h5
            refine rj_iload_n 3 dX12_isListening_59 rfl rfl ?_
            refine rj_aload_n 0 dX12_isListening_60 rfl rfl ?_
            refine rj_aload_n 0 dX12_isListening_61 rfl rfl ?_
            refine rj_getR (C0 := RX12) (T := TX12) (N := 16) (j := 7) (r := 407) dX12_isListening_62 rfl vX12_isListening_12 rfl (rj_lt hω (k := 395) rfl) (rj_sh hω ly_395) (by decide) kX12_isListening_21 rfl ?_
            refine rj_iload 7 dX12_isListening_65 rfl rfl ?_
            refine rj_iald dX12_isListening_67 rfl (rj_lt hω (k := 407) rfl) (rj_sh hω ly_407) (And.left hq6) ?_
            refine rj_iconst (v := 2) dX12_isListening_68 rfl (by decide) ?_
            refine rj_cV (rest := [.int a2]) (sX12_its (g := g) (ω := ω) hω (mX12_findsEvening s6.2 a0 (nI j6)) ((mX12_findsEvening s6.2 a0 (nI j6)).1 407 (nI j24).toNatClampNeg) 2  (And.left (And.right hq6)) (vp_in_nI (n := 2) (rj_bl rfl) (rj_bl rfl)) ) gX12_isListening_X12_its (rj_lt hω (k := 395) rfl) (rj_sh hω ly_395) rfl rfl hVX12_its ⟨Nat.le_of_ble_eq_true rfl, Nat.le_of_ble_eq_true rfl⟩ dX12_isListening_69 rfl rfl rfl (Nat.le_of_ble_eq_true rfl) rfl (Nat.le_of_ble_eq_true rfl) rfl ?_
            refine rj_icmp_lt dX12_isListening_72 rfl rfl (fun h6 => ?_) (fun h6 => ?_)
            · skip
              refine rj_iconst (v := 0) dX12_isListening_94 rfl (by decide) ?_
              refine rj_istore (l' := [(4, .int 0), (0, .ref (ω.2.2 395)), (1, .int a0), (2, .int a1), (3, .int a2), (5, .int (nI j6)), (6, .int (fX12_findsEvening s6.2 a0 (nI j6))), (7, .int (nI j24))]) dX12_isListening_95 rfl (rj_bl rfl) rfl ?_
              refine rj_iinc (v := nI (j24 + 1)) (l' := [(7, .int (nI (j24 + 1))), (4, .int 0), (0, .ref (ω.2.2 395)), (1, .int a0), (2, .int a1), (3, .int a2), (5, .int (nI j6)), (6, .int (fX12_findsEvening s6.2 a0 (nI j6)))]) 7 dX12_isListening_97 rfl rfl (nI_succ j24).symm (rj_bl rfl) rfl ?_
              refine rj_goto dX12_isListening_100 rfl ?_
              have e : bX12_isListening_24 μ a0 a1 a2 j6 s6 j24 s24 = .inl 0 := by unfold bX12_isListening_24; rw [if_neg h3]; rw [if_pos h4]; rw [if_pos h5]; rw [if_pos h6]; try rfl
              exact rj_sub (l' := [(0, .ref (ω.2.2 395)), (1, .int a0), (2, .int a1), (3, .int a2), (4, .int 0), (5, .int (nI j6)), (6, .int (fX12_findsEvening s6.2 a0 (nI j6))), (7, .int (nI (j24 + 1)))]) [2, 3, 4, 5, 1, 6, 7, 0] rfl (ih (j24 + 1) 0 (by omega) (by omega) (fun _ => ra_ix_n (hq0 True.intro) e) (by rw [rj_br_l e] at K; exact K))
            · have hq8 := (And.right (And.right (And.right hq6))) h6
              refine rj_iload_n 3 dX12_isListening_75 rfl rfl ?_
              refine rj_aload_n 0 dX12_isListening_76 rfl rfl ?_
              refine rj_aload_n 0 dX12_isListening_77 rfl rfl ?_
              refine rj_getR (C0 := RX12) (T := TX12) (N := 16) (j := 7) (r := 407) dX12_isListening_78 rfl vX12_isListening_12 rfl (rj_lt hω (k := 395) rfl) (rj_sh hω ly_395) (by decide) kX12_isListening_21 rfl ?_
              refine rj_iload 7 dX12_isListening_81 rfl rfl ?_
              refine rj_iald dX12_isListening_83 rfl (rj_lt hω (k := 407) rfl) (rj_sh hω ly_407) (And.left hq8) ?_
              refine rj_cV (rest := [.int a2]) (sX12_endOf (g := g) (ω := ω) hω (mX12_findsEvening s6.2 a0 (nI j6)) ((mX12_findsEvening s6.2 a0 (nI j6)).1 407 (nI j24).toNatClampNeg)  (And.left (And.right hq8)) ) gX12_isListening_X12_endOf (rj_lt hω (k := 395) rfl) (rj_sh hω ly_395) rfl rfl hVX12_endOf ⟨Nat.le_of_ble_eq_true rfl, Nat.le_of_ble_eq_true rfl⟩ dX12_isListening_84 rfl rfl rfl (Nat.le_of_ble_eq_true rfl) rfl (Nat.le_of_ble_eq_true rfl) rfl ?_
              refine rj_icmp_ge dX12_isListening_87 rfl rfl (fun h7 => ?_) (fun h7 => ?_)
              · skip
                refine rj_iconst (v := 0) dX12_isListening_94 rfl (by decide) ?_
                refine rj_istore (l' := [(4, .int 0), (0, .ref (ω.2.2 395)), (1, .int a0), (2, .int a1), (3, .int a2), (5, .int (nI j6)), (6, .int (fX12_findsEvening s6.2 a0 (nI j6))), (7, .int (nI j24))]) dX12_isListening_95 rfl (rj_bl rfl) rfl ?_
                refine rj_iinc (v := nI (j24 + 1)) (l' := [(7, .int (nI (j24 + 1))), (4, .int 0), (0, .ref (ω.2.2 395)), (1, .int a0), (2, .int a1), (3, .int a2), (5, .int (nI j6)), (6, .int (fX12_findsEvening s6.2 a0 (nI j6)))]) 7 dX12_isListening_97 rfl rfl (nI_succ j24).symm (rj_bl rfl) rfl ?_
                refine rj_goto dX12_isListening_100 rfl ?_
                have e : bX12_isListening_24 μ a0 a1 a2 j6 s6 j24 s24 = .inl 0 := by unfold bX12_isListening_24; rw [if_neg h3]; rw [if_pos h4]; rw [if_pos h5]; rw [if_neg h6]; rw [if_pos h7]; try rfl
                exact rj_sub (l' := [(0, .ref (ω.2.2 395)), (1, .int a0), (2, .int a1), (3, .int a2), (4, .int 0), (5, .int (nI j6)), (6, .int (fX12_findsEvening s6.2 a0 (nI j6))), (7, .int (nI (j24 + 1)))]) [2, 3, 4, 5, 1, 6, 7, 0] rfl (ih (j24 + 1) 0 (by omega) (by omega) (fun _ => ra_ix_n (hq0 True.intro) e) (by rw [rj_br_l e] at K; exact K))
              · skip
                refine rj_iconst (v := 1) dX12_isListening_90 rfl (by decide) ?_
                refine rj_goto dX12_isListening_91 rfl ?_
                refine rj_istore (l' := [(4, .int 1), (0, .ref (ω.2.2 395)), (1, .int a0), (2, .int a1), (3, .int a2), (5, .int (nI j6)), (6, .int (fX12_findsEvening s6.2 a0 (nI j6))), (7, .int (nI j24))]) dX12_isListening_95 rfl (rj_bl rfl) rfl ?_
                refine rj_iinc (v := nI (j24 + 1)) (l' := [(7, .int (nI (j24 + 1))), (4, .int 1), (0, .ref (ω.2.2 395)), (1, .int a0), (2, .int a1), (3, .int a2), (5, .int (nI j6)), (6, .int (fX12_findsEvening s6.2 a0 (nI j6)))]) 7 dX12_isListening_97 rfl rfl (nI_succ j24).symm (rj_bl rfl) rfl ?_
                refine rj_goto dX12_isListening_100 rfl ?_
                have e : bX12_isListening_24 μ a0 a1 a2 j6 s6 j24 s24 = .inl 1 := by unfold bX12_isListening_24; rw [if_neg h3]; rw [if_pos h4]; rw [if_pos h5]; rw [if_neg h6]; rw [if_neg h7]; try rfl
                exact rj_sub (l' := [(0, .ref (ω.2.2 395)), (1, .int a0), (2, .int a1), (3, .int a2), (4, .int 1), (5, .int (nI j6)), (6, .int (fX12_findsEvening s6.2 a0 (nI j6))), (7, .int (nI (j24 + 1)))]) [2, 3, 4, 5, 1, 6, 7, 0] rfl (ih (j24 + 1) 1 (by omega) (by omega) (fun _ => ra_ix_n (hq0 True.intro) e) (by rw [rj_br_l e] at K; exact K))
noncomputable def bX12_isListening_6 (μ : rj_M) (a0 : Int32) (a1 : Int32) (a2 : Int32) (j6 : Nat) (s6 : Int32 × rj_M) : (Int32 × rj_M) := ((rj_br (bX12_isListening_24 μ a0 a1 a2 j6 s6) (((mX12_findsEvening s6.2 a0 (nI j6)).1 395 8).toInt.toNat - 0) 0 s6.1).2, (mX12_findsEvening s6.2 a0 (nI j6)))
noncomputable def qX12_isListening_6 (μ : rj_M) (a0 : Int32) (a1 : Int32) (a2 : Int32) (j6 : Nat) (s6 : Int32 × rj_M) : Prop := (qX12_findsEvening s6.2 a0 (nI j6) ∧ ((True → ra_ix (qX12_isListening_24 μ a0 a1 a2 j6 s6) (bX12_isListening_24 μ a0 a1 a2 j6 s6) (((mX12_findsEvening s6.2 a0 (nI j6)).1 395 8).toInt.toNat - 0) 0 s6.1) ∧ True))
set_option maxHeartbeats 4000000 in
set_option maxRecDepth 100000 in
theorem lX12_isListening_6 {g : rj_G} {ω : rj_W} (hω : rj_ok ω) (μ : rj_M) (a0 : Int32) (a1 : Int32) (a2 : Int32)     (hp_a0 : (vp_in a0 12)) {F : rj_F} : ∀ (r j : Nat) (s : Int32 × rj_M), j + r = 4 → (True → ra_fo (qX12_isListening_6 μ a0 a1 a2) (bX12_isListening_6 μ a0 a1 a2) r j s) → (rj_R g RX12 cX12_isListening 8 (some .boolean) wsX12_isListening [] (rj_rm 5 0) F 0 ω ((rj_fo (bX12_isListening_6 μ a0 a1 a2) r j s).2) [(0, .ref (ω.2.2 395)), (1, .int a0), (2, .int a1), (3, .int a2), (4, .int ((rj_fo (bX12_isListening_6 μ a0 a1 a2) r j s).1)), (5, .int (nI 4))] 109 []) → rj_R g RX12 cX12_isListening 8 (some .boolean) wsX12_isListening [] (rj_rm 5 0) F 0 ω s.2 [(0, .ref (ω.2.2 395)), (1, .int a0), (2, .int a1), (3, .int a2), (4, .int s.1), (5, .int (nI j))] 6 [] := by
  intro r
  induction r with
  | zero =>
    intro j s hj hq0 K
    have e0 : j = 4 := by omega
    have hge : 4 ≤ nI j := by
      rw [e0]
      exact Int32.le_refl _
    refine rj_iload 5 dX12_isListening_6 rfl rfl ?_
    refine rj_iconst (v := 4) dX12_isListening_8 rfl (by decide) ?_
    refine rj_icmp_ge dX12_isListening_9 rfl rfl (fun h9 => ?_) (fun h9 => ?_)
    · have e1 : nI j = nI 4 := by rw [e0]
      rw [e1]
      exact K
    · exact absurd hge h9
  | succ r ih =>
    intro j6 s6 hj hq0 K
    have hl6 : j6 < 4 := by omega
    have hg6 : ¬ 4 ≤ nI j6 := nI_ge hl6 (rj_bl rfl)
    have hqa := ra_fo_q (hq0 True.intro)
    unfold qX12_isListening_6 at hqa
    refine rj_iload 5 dX12_isListening_6 rfl rfl ?_
    refine rj_iconst (v := 4) dX12_isListening_8 rfl (by decide) ?_
    refine rj_icmp_ge dX12_isListening_9 rfl rfl (fun h1 => ?_) (fun h1 => ?_)
    · exact absurd h1 hg6
    · refine rj_aload_n 0 dX12_isListening_12 rfl rfl ?_
      refine rj_iload_n 1 dX12_isListening_13 rfl rfl ?_
      refine rj_iload 5 dX12_isListening_14 rfl rfl ?_
      refine rj_cV (rest := []) (sX12_findsEvening (g := g) (ω := ω) hω s6.2 a0 (nI j6)  hp_a0 (And.left hqa)) gX12_isListening_X12_findsEvening (rj_lt hω (k := 395) rfl) (rj_sh hω ly_395) rfl rfl hVX12_findsEvening ⟨Nat.le_of_ble_eq_true rfl, Nat.le_of_ble_eq_true rfl⟩ dX12_isListening_16 rfl rfl rfl (Nat.le_of_ble_eq_true rfl) rfl (Nat.le_of_ble_eq_true rfl) rfl ?_
      refine rj_istore (l' := [(6, .int (fX12_findsEvening s6.2 a0 (nI j6))), (0, .ref (ω.2.2 395)), (1, .int a0), (2, .int a1), (3, .int a2), (4, .int s6.1), (5, .int (nI j6))]) dX12_isListening_19 rfl (rj_bl rfl) rfl ?_
      refine rj_iconst (v := 0) dX12_isListening_21 rfl (by decide) ?_
      refine rj_istore (l' := [(7, .int 0), (6, .int (fX12_findsEvening s6.2 a0 (nI j6))), (0, .ref (ω.2.2 395)), (1, .int a0), (2, .int a1), (3, .int a2), (4, .int s6.1), (5, .int (nI j6))]) dX12_isListening_22 rfl (rj_bl rfl) rfl ?_
      refine rj_sub (l' := [(0, .ref (ω.2.2 395)), (1, .int a0), (2, .int a1), (3, .int a2), (4, .int s6.1), (5, .int (nI j6)), (6, .int (fX12_findsEvening s6.2 a0 (nI j6))), (7, .int (nI 0))]) [2, 3, 4, 5, 6, 7, 1, 0] rfl ?_
      refine lX12_isListening_24 hω μ a0 a1 a2 j6 s6   hl6  hp_a0 h1 (((mX12_findsEvening s6.2 a0 (nI j6)).1 395 8).toInt.toNat - 0) 0 s6.1 rfl (rj_bl rfl) (And.left (And.right hqa)) ?_
      refine rj_iinc (v := nI (j6 + 1)) (l' := [(5, .int (nI (j6 + 1))), (0, .ref (ω.2.2 395)), (1, .int a0), (2, .int a1), (3, .int a2), (4, .int ((rj_br (bX12_isListening_24 μ a0 a1 a2 j6 s6) (((mX12_findsEvening s6.2 a0 (nI j6)).1 395 8).toInt.toNat - 0) 0 s6.1).2)), (6, .int (fX12_findsEvening s6.2 a0 (nI j6))), (7, .int (nI (rj_br (bX12_isListening_24 μ a0 a1 a2 j6 s6) (((mX12_findsEvening s6.2 a0 (nI j6)).1 395 8).toInt.toNat - 0) 0 s6.1).1))]) 5 dX12_isListening_103 rfl rfl (nI_succ j6).symm (rj_bl rfl) rfl ?_
      refine rj_goto dX12_isListening_106 rfl ?_
      have e : bX12_isListening_6 μ a0 a1 a2 j6 s6 = ((rj_br (bX12_isListening_24 μ a0 a1 a2 j6 s6) (((mX12_findsEvening s6.2 a0 (nI j6)).1 395 8).toInt.toNat - 0) 0 s6.1).2, (mX12_findsEvening s6.2 a0 (nI j6))) := by unfold bX12_isListening_6; rfl
      revert e
      generalize (rj_br (bX12_isListening_24 μ a0 a1 a2 j6 s6) (((mX12_findsEvening s6.2 a0 (nI j6)).1 395 8).toInt.toNat - 0) 0 s6.1) = gA0
      generalize (mX12_findsEvening s6.2 a0 (nI j6)) = gA1
      intro e
      exact rj_sub (l' := [(0, .ref (ω.2.2 395)), (1, .int a0), (2, .int a1), (3, .int a2), (4, .int (gA0.2)), (5, .int (nI (j6 + 1)))]) [1, 2, 3, 4, 5, 0] rfl (ih (j6 + 1) (gA0.2, gA1) (by omega) (fun _ => ra_fo_n (hq0 True.intro) e) (by rw [rj_fo_s, e] at K; exact K))
set_option maxHeartbeats 4000000 in
theorem lX12_isListening_6u {g : rj_G} {ω : rj_W} (hω : rj_ok ω) (μ : rj_M) (a0 : Int32) (a1 : Int32) (a2 : Int32)     (hp_a0 : (vp_in a0 12)) {F : rj_F} : ∀ (r j : Nat) (c0 : Int32) (c1 : rj_M), j + r = 4 → (True → ra_fo (qX12_isListening_6 μ a0 a1 a2) (bX12_isListening_6 μ a0 a1 a2) r j (c0, c1)) → (rj_R g RX12 cX12_isListening 8 (some .boolean) wsX12_isListening [] (rj_rm 5 0) F 0 ω ((rj_fo (bX12_isListening_6 μ a0 a1 a2) r j (c0, c1)).2) [(0, .ref (ω.2.2 395)), (1, .int a0), (2, .int a1), (3, .int a2), (4, .int ((rj_fo (bX12_isListening_6 μ a0 a1 a2) r j (c0, c1)).1)), (5, .int (nI 4))] 109 []) → rj_R g RX12 cX12_isListening 8 (some .boolean) wsX12_isListening [] (rj_rm 5 0) F 0 ω c1 [(0, .ref (ω.2.2 395)), (1, .int a0), (2, .int a1), (3, .int a2), (4, .int c0), (5, .int (nI j))] 6 [] := fun r j c0 c1 => lX12_isListening_6 hω μ a0 a1 a2     hp_a0 r j (c0, c1)
noncomputable def fX12_isListening (μ : rj_M) (a0 : Int32) (a1 : Int32) (a2 : Int32) : Int32 := (rj_fo (bX12_isListening_6 μ a0 a1 a2) 4 0 (0, μ)).1
noncomputable def mX12_isListening (μ : rj_M) (a0 : Int32) (a1 : Int32) (a2 : Int32) : rj_M := (rj_fo (bX12_isListening_6 μ a0 a1 a2) 4 0 (0, μ)).2
noncomputable def qX12_isListening (μ : rj_M) (a0 : Int32) (a1 : Int32) (a2 : Int32) : Prop := ((True → ra_fo (qX12_isListening_6 μ a0 a1 a2) (bX12_isListening_6 μ a0 a1 a2) 4 0 (0, μ)) ∧ (narrow .boolean (.int ((rj_fo (bX12_isListening_6 μ a0 a1 a2) 4 0 (0, μ)).1)) = .int ((rj_fo (bX12_isListening_6 μ a0 a1 a2) 4 0 (0, μ)).1) ∧ True))
set_option maxHeartbeats 40000000 in
set_option maxRecDepth 100000 in
theorem sX12_isListening {g : rj_G} {ω : rj_W} (hω : rj_ok ω) (μ : rj_M) (a0 : Int32) (a1 : Int32) (a2 : Int32)  (hp_a0 : vp_in a0 12)  (hq : qX12_isListening μ a0 a1 a2) : rj_Sp g yX12_isListening wsX12_isListening (rj_rm 5 0) [.ref (ω.2.2 395), .int a0, .int a1, .int a2] ω μ (rj_D (.inl (some (.int (fX12_isListening μ a0 a1 a2)))) ω (mX12_isListening μ a0 a1 a2)) := by
  have hqa := hq
  unfold qX12_isListening at hqa
  refine rj_of' (cc := cX12_isListening) (nL := 8) (ret := (some .boolean)) (own := RX12) (l0 := [(0, .ref (ω.2.2 395)), (1, .int a0), (2, .int a1), (3, .int a2)]) rfl (by decide +kernel) rfl (Nat.le_of_ble_eq_true rfl) rfl ?_
  refine rj_iconst (v := 0) dX12_isListening_0 rfl (by decide) ?_
  refine rj_istore (l' := [(4, .int 0), (0, .ref (ω.2.2 395)), (1, .int a0), (2, .int a1), (3, .int a2)]) dX12_isListening_1 rfl (rj_bl rfl) rfl ?_
  refine rj_iconst (v := 0) dX12_isListening_3 rfl (by decide) ?_
  refine rj_istore (l' := [(5, .int 0), (4, .int 0), (0, .ref (ω.2.2 395)), (1, .int a0), (2, .int a1), (3, .int a2)]) dX12_isListening_4 rfl (rj_bl rfl) rfl ?_
  refine rj_sub (l' := [(0, .ref (ω.2.2 395)), (1, .int a0), (2, .int a1), (3, .int a2), (4, .int 0), (5, .int (nI 0))]) [2, 3, 4, 5, 1, 0] rfl ?_
  refine lX12_isListening_6u hω μ a0 a1 a2     hp_a0 4 0 0 μ rfl (And.left hqa) ?_
  refine rj_iload 4 dX12_isListening_109 rfl rfl ?_
  exact rj_zret dX12_isListening_111 rfl (And.left (And.right hqa)) (Nat.le_of_ble_eq_true rfl) (Nat.le_of_ble_eq_true rfl) ⟨(by unfold fX12_isListening; rfl), rfl, (by unfold mX12_isListening; rfl)⟩
