theorem hSX12_setLoad : yX12_setLoad.cls ≠ "java/lang/invoke/MethodHandle" ∧ yX12_setLoad.cls ≠ "java/lang/invoke/VarHandle" ∧ (parseMethodDescriptor yX12_setLoad.desc).map (fun d => d.parameters.length) = some 3 := by decide +kernel
theorem hVX12_setLoad : yX12_setLoad.cls = RX12 ∧ yX12_setLoad.cls ≠ "java/lang/invoke/MethodHandle" ∧ yX12_setLoad.cls ≠ "java/lang/invoke/VarHandle" ∧ (parseMethodDescriptor yX12_setLoad.desc).map (fun d => d.parameters.length) = some 3 := by decide +kernel
theorem vX12_setLoad_12 : ∀ w ∈ u_ws RX12 TX12 16, w ∈ wsX12_setLoad := by decide +kernel
theorem kX12_setLoad_9 : Cond.fieldLink RX12 9 (TX12 1).1 (TX12 1).2.1 (TX12 1).2.2.1 ∈ wsX12_setLoad := by decide +kernel
noncomputable def bX12_setLoad_76 (μ : rj_M) (a0 : Int32) (a1 : Int32) (a2 : Int32) (s76 : Int32 × rj_M) : (Int32 × rj_M) ⊕ (Int32 × rj_M) := (if a1 < s76.1 then .inr (s76.1, s76.2) else .inl (s76.1 + 1, (rj_pi s76.2 396 (412 + s76.1).toNatClampNeg a2)))
noncomputable def qX12_setLoad_76 (μ : rj_M) (a0 : Int32) (a1 : Int32) (a2 : Int32) (s76 : Int32 × rj_M) : Prop := (((a1 < s76.1) → True) ∧ ((¬ (a1 < s76.1)) → (vp_in (412 + s76.1) 625 ∧ True)))
set_option maxHeartbeats 4000000 in
set_option maxRecDepth 100000 in
theorem lX12_setLoad_76 {g : rj_G} {ω : rj_W} (hω : rj_ok ω) (μ : rj_M) (a0 : Int32) (a1 : Int32) (a2 : Int32)    (h1 : ¬ ((fX12_isHour μ a0) = 0)) (h3 : ¬ ((fX12_isHour μ a1) = 0)) (h6 : ¬ (a1 < a0)) (h8 : ¬ ((fX12_in (mX12_lacksT μ) a2 0 500) = 0)) {F : rj_F} : ∀ (r : Nat) (s : Int32 × rj_M), (True → ra_we (qX12_setLoad_76 μ a0 a1 a2) (bX12_setLoad_76 μ a0 a1 a2) r s) → (rj_R g RX12 cX12_setLoad 6 (some .int) wsX12_setLoad [] (rj_rm 2 0) F 0 ω ((rj_we (bX12_setLoad_76 μ a0 a1 a2) r s).2) [(0, .ref (ω.2.2 395)), (1, .int a0), (2, .int a1), (3, .int a2), (4, .int ((mX12_keeps (mX12_lacksT μ)).1 396 (412 + a0).toNatClampNeg)), (5, .int ((rj_we (bX12_setLoad_76 μ a0 a1 a2) r s).1))] 100 []) → rj_R g RX12 cX12_setLoad 6 (some .int) wsX12_setLoad [] (rj_rm 2 0) F 0 ω s.2 [(0, .ref (ω.2.2 395)), (1, .int a0), (2, .int a1), (3, .int a2), (4, .int ((mX12_keeps (mX12_lacksT μ)).1 396 (412 + a0).toNatClampNeg)), (5, .int s.1)] 76 [] := by
  intro r
  induction r with
  | zero =>
    intro s hq0 K
    exact (ra_we_0 (hq0 True.intro)).elim
  | succ r ih =>
    intro s76 hq0 K
    have hqa := ra_we_q (hq0 True.intro)
    unfold qX12_setLoad_76 at hqa
    refine rj_iload 5 dX12_setLoad_76 rfl rfl ?_
    refine rj_iload_n 2 dX12_setLoad_78 rfl rfl ?_
    refine rj_icmp_gt dX12_setLoad_79 rfl rfl (fun h11 => ?_) (fun h11 => ?_)
    · skip
      have e : bX12_setLoad_76 μ a0 a1 a2 s76 = .inr (s76.1, s76.2) := by unfold bX12_setLoad_76; rw [if_pos h11]; try rfl
      exact rj_sub (l' := [(0, .ref (ω.2.2 395)), (1, .int a0), (2, .int a1), (3, .int a2), (4, .int ((mX12_keeps (mX12_lacksT μ)).1 396 (412 + a0).toNatClampNeg)), (5, .int s76.1)]) [0, 1, 2, 3, 4, 5] rfl (by rw [rj_we_r e] at K; exact K)
    · have hq10 := (And.right hqa) h11
      refine rj_aload_n 0 dX12_setLoad_82 rfl rfl ?_
      refine rj_getR (C0 := RX12) (T := TX12) (N := 16) (j := 1) (r := 396) dX12_setLoad_83 rfl vX12_setLoad_12 rfl (rj_lt hω (k := 395) rfl) (rj_sh hω ly_395) (by decide) kX12_setLoad_9 rfl ?_
      refine rj_sipush (v := 412) dX12_setLoad_86 rfl (by decide) ?_
      refine rj_iload 5 dX12_setLoad_89 rfl rfl ?_
      refine rj_iadd dX12_setLoad_91 rfl ?_
      refine rj_iload_n 3 dX12_setLoad_92 rfl rfl ?_
      refine rj_iast dX12_setLoad_93 rfl (rj_lt hω (k := 396) rfl) (rj_sh hω ly_396) (And.left hq10) ?_
      refine rj_iinc (v := s76.1 + 1) (l' := [(5, .int (s76.1 + 1)), (0, .ref (ω.2.2 395)), (1, .int a0), (2, .int a1), (3, .int a2), (4, .int ((mX12_keeps (mX12_lacksT μ)).1 396 (412 + a0).toNatClampNeg))]) 5 dX12_setLoad_94 rfl rfl rfl (rj_bl rfl) rfl ?_
      refine rj_goto dX12_setLoad_97 rfl ?_
      have e : bX12_setLoad_76 μ a0 a1 a2 s76 = .inl (s76.1 + 1, (rj_pi s76.2 396 (412 + s76.1).toNatClampNeg a2)) := by unfold bX12_setLoad_76; rw [if_neg h11]; try rfl
      exact rj_sub (l' := [(0, .ref (ω.2.2 395)), (1, .int a0), (2, .int a1), (3, .int a2), (4, .int ((mX12_keeps (mX12_lacksT μ)).1 396 (412 + a0).toNatClampNeg)), (5, .int (s76.1 + 1))]) [1, 2, 3, 4, 5, 0] rfl (ih (s76.1 + 1, (rj_pi s76.2 396 (412 + s76.1).toNatClampNeg a2)) (fun _ => ra_we_n (hq0 True.intro) e) (by rw [rj_we_l e] at K; exact K))
set_option maxHeartbeats 4000000 in
theorem lX12_setLoad_76u {g : rj_G} {ω : rj_W} (hω : rj_ok ω) (μ : rj_M) (a0 : Int32) (a1 : Int32) (a2 : Int32)    (h1 : ¬ ((fX12_isHour μ a0) = 0)) (h3 : ¬ ((fX12_isHour μ a1) = 0)) (h6 : ¬ (a1 < a0)) (h8 : ¬ ((fX12_in (mX12_lacksT μ) a2 0 500) = 0)) {F : rj_F} : ∀ (r : Nat) (c0 : Int32) (c1 : rj_M), (True → ra_we (qX12_setLoad_76 μ a0 a1 a2) (bX12_setLoad_76 μ a0 a1 a2) r (c0, c1)) → (rj_R g RX12 cX12_setLoad 6 (some .int) wsX12_setLoad [] (rj_rm 2 0) F 0 ω ((rj_we (bX12_setLoad_76 μ a0 a1 a2) r (c0, c1)).2) [(0, .ref (ω.2.2 395)), (1, .int a0), (2, .int a1), (3, .int a2), (4, .int ((mX12_keeps (mX12_lacksT μ)).1 396 (412 + a0).toNatClampNeg)), (5, .int ((rj_we (bX12_setLoad_76 μ a0 a1 a2) r (c0, c1)).1))] 100 []) → rj_R g RX12 cX12_setLoad 6 (some .int) wsX12_setLoad [] (rj_rm 2 0) F 0 ω c1 [(0, .ref (ω.2.2 395)), (1, .int a0), (2, .int a1), (3, .int a2), (4, .int ((mX12_keeps (mX12_lacksT μ)).1 396 (412 + a0).toNatClampNeg)), (5, .int c0)] 76 [] := fun r c0 c1 => lX12_setLoad_76 hω μ a0 a1 a2    h1 h3 h6 h8 r (c0, c1)
noncomputable def fX12_setLoad (μ : rj_M) (a0 : Int32) (a1 : Int32) (a2 : Int32) : Int32 := (if (fX12_isHour μ a0) = 0 then 0 else (if (fX12_isHour μ a1) = 0 then 0 else (if a1 < a0 then 0 else (if (fX12_in (mX12_lacksT μ) a2 0 500) = 0 then 0 else ((mX12_keeps (mX12_lacksT μ)).1 396 (412 + a0).toNatClampNeg)))))
noncomputable def mX12_setLoad (μ : rj_M) (a0 : Int32) (a1 : Int32) (a2 : Int32) : rj_M := (if (fX12_isHour μ a0) = 0 then (mX12_lacksF μ) else (if (fX12_isHour μ a1) = 0 then (mX12_lacksF μ) else (if a1 < a0 then (mX12_noF (mX12_lacksT μ) 2) else (if (fX12_in (mX12_lacksT μ) a2 0 500) = 0 then (mX12_noF (mX12_lacksT μ) 2) else (rj_we (bX12_setLoad_76 μ a0 a1 a2) 25 (a0, (mX12_keeps (mX12_lacksT μ)))).2))))
noncomputable def qX12_setLoad (μ : rj_M) (a0 : Int32) (a1 : Int32) (a2 : Int32) : Prop := ((((fX12_isHour μ a0) = 0) → True) ∧ ((¬ ((fX12_isHour μ a0) = 0)) → ((((fX12_isHour μ a1) = 0) → True) ∧ ((¬ ((fX12_isHour μ a1) = 0)) → (((a1 < a0) → True) ∧ ((¬ (a1 < a0)) → ((((fX12_in (mX12_lacksT μ) a2 0 500) = 0) → True) ∧ ((¬ ((fX12_in (mX12_lacksT μ) a2 0 500) = 0)) → (qX12_keeps (mX12_lacksT μ) ∧ ((True → ra_we (qX12_setLoad_76 μ a0 a1 a2) (bX12_setLoad_76 μ a0 a1 a2) 25 (a0, (mX12_keeps (mX12_lacksT μ)))) ∧ True))))))))))
set_option maxHeartbeats 40000000 in
set_option maxRecDepth 100000 in
theorem sX12_setLoad {g : rj_G} {ω : rj_W} (hω : rj_ok ω) (μ : rj_M) (a0 : Int32) (a1 : Int32) (a2 : Int32)   (hq : qX12_setLoad μ a0 a1 a2) : rj_Sp g yX12_setLoad wsX12_setLoad (rj_rm 2 0) [.ref (ω.2.2 395), .int a0, .int a1, .int a2] ω μ (rj_D (.inl (some (.int (fX12_setLoad μ a0 a1 a2)))) ω (mX12_setLoad μ a0 a1 a2)) := by
  have hqa := hq
  unfold qX12_setLoad at hqa
  refine rj_of' (cc := cX12_setLoad) (nL := 6) (ret := (some .int)) (own := RX12) (l0 := [(0, .ref (ω.2.2 395)), (1, .int a0), (2, .int a1), (3, .int a2)]) rfl (by decide +kernel) rfl (Nat.le_of_ble_eq_true rfl) rfl ?_
  refine rj_aload_n 0 dX12_setLoad_0 rfl rfl ?_
  refine rj_iload_n 1 dX12_setLoad_1 rfl rfl ?_
  refine rj_cS (rest := [.ref (ω.2.2 395)]) (sX12_isHour (g := g) (ω := ω) hω μ a0   ) gX12_setLoad_X12_isHour rfl hSX12_isHour ⟨Nat.le_of_ble_eq_true rfl, Nat.le_of_ble_eq_true rfl⟩ dX12_setLoad_2 rfl rfl rfl (Nat.le_of_ble_eq_true rfl) rfl (Nat.le_of_ble_eq_true rfl) rfl ?_
  refine rj_if_eq dX12_setLoad_5 rfl rfl (fun h1 => ?_) (fun h1 => ?_)
  · skip
    refine rj_iconst (v := 0) dX12_setLoad_19 rfl (by decide) ?_
    refine rj_cV (rest := []) (sX12_lacksF (g := g) (ω := ω) hω μ   ) gX12_setLoad_X12_lacks (rj_lt hω (k := 395) rfl) (rj_sh hω ly_395) rfl rfl hVX12_lacks ⟨Nat.le_of_ble_eq_true rfl, Nat.le_of_ble_eq_true rfl⟩ dX12_setLoad_20 rfl rfl rfl (Nat.le_of_ble_eq_true rfl) rfl (Nat.le_of_ble_eq_true rfl) rfl ?_
    refine rj_if_ne dX12_setLoad_23 rfl rfl (fun h2 => ?_) (fun h2 => ?_)
    · refine rj_iconst (v := 0) dX12_setLoad_55 rfl (by decide) ?_
      exact rj_iret dX12_setLoad_56 rfl (Nat.le_of_ble_eq_true rfl) (Nat.le_of_ble_eq_true rfl) ⟨(by unfold fX12_setLoad; rw [if_pos h1]; try rfl), rfl, (by unfold mX12_setLoad; rw [if_pos h1]; try rfl)⟩
    · exact absurd h2 (by decide)
  · have hq2 := (And.right hqa) h1
    refine rj_iload_n 2 dX12_setLoad_8 rfl rfl ?_
    refine rj_cS (rest := [.ref (ω.2.2 395)]) (sX12_isHour (g := g) (ω := ω) hω μ a1   ) gX12_setLoad_X12_isHour rfl hSX12_isHour ⟨Nat.le_of_ble_eq_true rfl, Nat.le_of_ble_eq_true rfl⟩ dX12_setLoad_9 rfl rfl rfl (Nat.le_of_ble_eq_true rfl) rfl (Nat.le_of_ble_eq_true rfl) rfl ?_
    refine rj_if_eq dX12_setLoad_12 rfl rfl (fun h3 => ?_) (fun h3 => ?_)
    · skip
      refine rj_iconst (v := 0) dX12_setLoad_19 rfl (by decide) ?_
      refine rj_cV (rest := []) (sX12_lacksF (g := g) (ω := ω) hω μ   ) gX12_setLoad_X12_lacks (rj_lt hω (k := 395) rfl) (rj_sh hω ly_395) rfl rfl hVX12_lacks ⟨Nat.le_of_ble_eq_true rfl, Nat.le_of_ble_eq_true rfl⟩ dX12_setLoad_20 rfl rfl rfl (Nat.le_of_ble_eq_true rfl) rfl (Nat.le_of_ble_eq_true rfl) rfl ?_
      refine rj_if_ne dX12_setLoad_23 rfl rfl (fun h4 => ?_) (fun h4 => ?_)
      · refine rj_iconst (v := 0) dX12_setLoad_55 rfl (by decide) ?_
        exact rj_iret dX12_setLoad_56 rfl (Nat.le_of_ble_eq_true rfl) (Nat.le_of_ble_eq_true rfl) ⟨(by unfold fX12_setLoad; rw [if_neg h1]; rw [if_pos h3]; try rfl), rfl, (by unfold mX12_setLoad; rw [if_neg h1]; rw [if_pos h3]; try rfl)⟩
      · exact absurd h4 (by decide)
    · have hq4 := (And.right hq2) h3
      refine rj_iconst (v := 1) dX12_setLoad_15 rfl (by decide) ?_
      refine rj_goto dX12_setLoad_16 rfl ?_
      refine rj_cV (rest := []) (sX12_lacksT (g := g) (ω := ω) hω μ   ) gX12_setLoad_X12_lacks (rj_lt hω (k := 395) rfl) (rj_sh hω ly_395) rfl rfl hVX12_lacks ⟨Nat.le_of_ble_eq_true rfl, Nat.le_of_ble_eq_true rfl⟩ dX12_setLoad_20 rfl rfl rfl (Nat.le_of_ble_eq_true rfl) rfl (Nat.le_of_ble_eq_true rfl) rfl ?_
      refine rj_if_ne dX12_setLoad_23 rfl rfl (fun h5 => ?_) (fun h5 => ?_)
      · exact absurd (by decide) h5
      · refine rj_aload_n 0 dX12_setLoad_26 rfl rfl ?_
        refine rj_iload_n 2 dX12_setLoad_27 rfl rfl ?_
        refine rj_iload_n 1 dX12_setLoad_28 rfl rfl ?_
        refine rj_icmp_lt dX12_setLoad_29 rfl rfl (fun h6 => ?_) (fun h6 => ?_)
        · skip
          refine rj_iconst (v := 0) dX12_setLoad_47 rfl (by decide) ?_
          refine rj_iconst (v := 2) dX12_setLoad_48 rfl (by decide) ?_
          refine rj_cV (rest := []) (sX12_noF (g := g) (ω := ω) hω (mX12_lacksT μ) 2   ) gX12_setLoad_X12_no (rj_lt hω (k := 395) rfl) (rj_sh hω ly_395) rfl rfl hVX12_no ⟨Nat.le_of_ble_eq_true rfl, Nat.le_of_ble_eq_true rfl⟩ dX12_setLoad_49 rfl rfl rfl (Nat.le_of_ble_eq_true rfl) rfl (Nat.le_of_ble_eq_true rfl) rfl ?_
          refine rj_if_eq dX12_setLoad_52 rfl rfl (fun h7 => ?_) (fun h7 => ?_)
          · exact absurd h7 (by decide)
          · refine rj_iconst (v := 0) dX12_setLoad_55 rfl (by decide) ?_
            exact rj_iret dX12_setLoad_56 rfl (Nat.le_of_ble_eq_true rfl) (Nat.le_of_ble_eq_true rfl) ⟨(by unfold fX12_setLoad; rw [if_neg h1]; rw [if_neg h3]; rw [if_pos h6]; try rfl), rfl, (by unfold mX12_setLoad; rw [if_neg h1]; rw [if_neg h3]; rw [if_pos h6]; try rfl)⟩
        · have hq6 := (And.right hq4) h6
          refine rj_iload_n 3 dX12_setLoad_32 rfl rfl ?_
          refine rj_iconst (v := 0) dX12_setLoad_33 rfl (by decide) ?_
          refine rj_sipush (v := 500) dX12_setLoad_34 rfl (by decide) ?_
          refine rj_cS (rest := [.ref (ω.2.2 395)]) (sX12_in (g := g) (ω := ω) hω (mX12_lacksT μ) a2 0 500   ) gX12_setLoad_X12_in rfl hSX12_in ⟨Nat.le_of_ble_eq_true rfl, Nat.le_of_ble_eq_true rfl⟩ dX12_setLoad_37 rfl rfl rfl (Nat.le_of_ble_eq_true rfl) rfl (Nat.le_of_ble_eq_true rfl) rfl ?_
          refine rj_if_eq dX12_setLoad_40 rfl rfl (fun h8 => ?_) (fun h8 => ?_)
          · skip
            refine rj_iconst (v := 0) dX12_setLoad_47 rfl (by decide) ?_
            refine rj_iconst (v := 2) dX12_setLoad_48 rfl (by decide) ?_
            refine rj_cV (rest := []) (sX12_noF (g := g) (ω := ω) hω (mX12_lacksT μ) 2   ) gX12_setLoad_X12_no (rj_lt hω (k := 395) rfl) (rj_sh hω ly_395) rfl rfl hVX12_no ⟨Nat.le_of_ble_eq_true rfl, Nat.le_of_ble_eq_true rfl⟩ dX12_setLoad_49 rfl rfl rfl (Nat.le_of_ble_eq_true rfl) rfl (Nat.le_of_ble_eq_true rfl) rfl ?_
            refine rj_if_eq dX12_setLoad_52 rfl rfl (fun h9 => ?_) (fun h9 => ?_)
            · exact absurd h9 (by decide)
            · refine rj_iconst (v := 0) dX12_setLoad_55 rfl (by decide) ?_
              exact rj_iret dX12_setLoad_56 rfl (Nat.le_of_ble_eq_true rfl) (Nat.le_of_ble_eq_true rfl) ⟨(by unfold fX12_setLoad; rw [if_neg h1]; rw [if_neg h3]; rw [if_neg h6]; rw [if_pos h8]; try rfl), rfl, (by unfold mX12_setLoad; rw [if_neg h1]; rw [if_neg h3]; rw [if_neg h6]; rw [if_pos h8]; try rfl)⟩
          · have hq8 := (And.right hq6) h8
            refine rj_iconst (v := 1) dX12_setLoad_43 rfl (by decide) ?_
            refine rj_goto dX12_setLoad_44 rfl ?_
            refine rj_iconst (v := 2) dX12_setLoad_48 rfl (by decide) ?_
            refine rj_cV (rest := []) (sX12_noT (g := g) (ω := ω) hω (mX12_lacksT μ) 2   ) gX12_setLoad_X12_no (rj_lt hω (k := 395) rfl) (rj_sh hω ly_395) rfl rfl hVX12_no ⟨Nat.le_of_ble_eq_true rfl, Nat.le_of_ble_eq_true rfl⟩ dX12_setLoad_49 rfl rfl rfl (Nat.le_of_ble_eq_true rfl) rfl (Nat.le_of_ble_eq_true rfl) rfl ?_
            refine rj_if_eq dX12_setLoad_52 rfl rfl (fun h10 => ?_) (fun h10 => ?_)
            · refine rj_aload_n 0 dX12_setLoad_57 rfl rfl ?_
              refine rj_cV (rest := []) (sX12_keeps (g := g) (ω := ω) hω (mX12_lacksT μ)   (And.left hq8)) gX12_setLoad_X12_keeps (rj_lt hω (k := 395) rfl) (rj_sh hω ly_395) rfl rfl hVX12_keeps ⟨Nat.le_of_ble_eq_true rfl, Nat.le_of_ble_eq_true rfl⟩ dX12_setLoad_58 rfl rfl rfl (Nat.le_of_ble_eq_true rfl) rfl (Nat.le_of_ble_eq_true rfl) rfl ?_
              refine rj_aload_n 0 dX12_setLoad_61 rfl rfl ?_
              refine rj_getR (C0 := RX12) (T := TX12) (N := 16) (j := 1) (r := 396) dX12_setLoad_62 rfl vX12_setLoad_12 rfl (rj_lt hω (k := 395) rfl) (rj_sh hω ly_395) (by decide) kX12_setLoad_9 rfl ?_
              refine rj_sipush (v := 412) dX12_setLoad_65 rfl (by decide) ?_
              refine rj_iload_n 1 dX12_setLoad_68 rfl rfl ?_
              refine rj_iadd dX12_setLoad_69 rfl ?_
              refine rj_iald dX12_setLoad_70 rfl (rj_lt hω (k := 396) rfl) (rj_sh hω ly_396) (rj_vle (rj_vadd (N := 436) (vp_in_nI (n := 412) (N := 413) (rj_bl rfl) (rj_bl rfl)) (rj_isHour h1) rfl rfl) rfl) ?_
              refine rj_istore (l' := [(4, .int ((mX12_keeps (mX12_lacksT μ)).1 396 (412 + a0).toNatClampNeg)), (0, .ref (ω.2.2 395)), (1, .int a0), (2, .int a1), (3, .int a2)]) dX12_setLoad_71 rfl (rj_bl rfl) rfl ?_
              refine rj_iload_n 2 dX12_setLoad_73 rfl rfl ?_
              refine rj_istore (l' := [(5, .int a0), (4, .int ((mX12_keeps (mX12_lacksT μ)).1 396 (412 + a0).toNatClampNeg)), (0, .ref (ω.2.2 395)), (1, .int a0), (2, .int a1), (3, .int a2)]) dX12_setLoad_74 rfl (rj_bl rfl) rfl ?_
              refine rj_sub (l' := [(0, .ref (ω.2.2 395)), (1, .int a0), (2, .int a1), (3, .int a2), (4, .int ((mX12_keeps (mX12_lacksT μ)).1 396 (412 + a0).toNatClampNeg)), (5, .int a0)]) [2, 3, 4, 5, 1, 0] rfl ?_
              refine lX12_setLoad_76u hω μ a0 a1 a2    h1 h3 h6 h8 25 a0 (mX12_keeps (mX12_lacksT μ)) (And.left (And.right hq8)) ?_
              refine rj_iload 4 dX12_setLoad_100 rfl rfl ?_
              exact rj_iret dX12_setLoad_102 rfl (Nat.le_of_ble_eq_true rfl) (Nat.le_of_ble_eq_true rfl) ⟨(by unfold fX12_setLoad; rw [if_neg h1]; rw [if_neg h3]; rw [if_neg h6]; rw [if_neg h8]; try rfl), rfl, (by unfold mX12_setLoad; rw [if_neg h1]; rw [if_neg h3]; rw [if_neg h6]; rw [if_neg h8]; try rfl)⟩
            · exact absurd (by decide) h10
theorem hSX12_setGenerator : yX12_setGenerator.cls ≠ "java/lang/invoke/MethodHandle" ∧ yX12_setGenerator.cls ≠ "java/lang/invoke/VarHandle" ∧ (parseMethodDescriptor yX12_setGenerator.desc).map (fun d => d.parameters.length) = some 4 := by decide +kernel
theorem hVX12_setGenerator : yX12_setGenerator.cls = RX12 ∧ yX12_setGenerator.cls ≠ "java/lang/invoke/MethodHandle" ∧ yX12_setGenerator.cls ≠ "java/lang/invoke/VarHandle" ∧ (parseMethodDescriptor yX12_setGenerator.desc).map (fun d => d.parameters.length) = some 4 := by decide +kernel
theorem vX12_setGenerator_12 : ∀ w ∈ u_ws RX12 TX12 16, w ∈ wsX12_setGenerator := by decide +kernel
theorem kX12_setGenerator_9 : Cond.fieldLink RX12 9 (TX12 1).1 (TX12 1).2.1 (TX12 1).2.2.1 ∈ wsX12_setGenerator := by decide +kernel
noncomputable def fX12_setGenerator (μ : rj_M) (a0 : Int32) (a1 : Int32) (a2 : Int32) (a3 : Int32) : Int32 := (if (fX12_lacks μ (fX12_in μ a0 0 3)) = 0 then (if (fX12_in (mX12_lacks μ (fX12_in μ a0 0 3)) a1 0 200) = 0 then 0 else (if (fX12_in (mX12_lacks μ (fX12_in μ a0 0 3)) a2 0 100) = 0 then 0 else (if (fX12_in (mX12_lacks μ (fX12_in μ a0 0 3)) a3 0 100) = 0 then 0 else (fX12_sets (mX12_lacks μ (fX12_in μ a0 0 3)) (436 + (3 * a0)) a1)))) else 0)
noncomputable def mX12_setGenerator (μ : rj_M) (a0 : Int32) (a1 : Int32) (a2 : Int32) (a3 : Int32) : rj_M := (if (fX12_lacks μ (fX12_in μ a0 0 3)) = 0 then (if (fX12_in (mX12_lacks μ (fX12_in μ a0 0 3)) a1 0 200) = 0 then (mX12_noF (mX12_lacks μ (fX12_in μ a0 0 3)) 2) else (if (fX12_in (mX12_lacks μ (fX12_in μ a0 0 3)) a2 0 100) = 0 then (mX12_noF (mX12_lacks μ (fX12_in μ a0 0 3)) 2) else (if (fX12_in (mX12_lacks μ (fX12_in μ a0 0 3)) a3 0 100) = 0 then (mX12_noF (mX12_lacks μ (fX12_in μ a0 0 3)) 2) else (rj_pi (rj_pi (mX12_sets (mX12_lacks μ (fX12_in μ a0 0 3)) (436 + (3 * a0)) a1) 396 ((436 + (3 * a0)) + 1).toNatClampNeg a2) 396 ((436 + (3 * a0)) + 2).toNatClampNeg a3)))) else (mX12_lacks μ (fX12_in μ a0 0 3)))
noncomputable def qX12_setGenerator (μ : rj_M) (a0 : Int32) (a1 : Int32) (a2 : Int32) (a3 : Int32) : Prop := ((((fX12_lacks μ (fX12_in μ a0 0 3)) = 0) → ((((fX12_in (mX12_lacks μ (fX12_in μ a0 0 3)) a1 0 200) = 0) → True) ∧ ((¬ ((fX12_in (mX12_lacks μ (fX12_in μ a0 0 3)) a1 0 200) = 0)) → ((((fX12_in (mX12_lacks μ (fX12_in μ a0 0 3)) a2 0 100) = 0) → True) ∧ ((¬ ((fX12_in (mX12_lacks μ (fX12_in μ a0 0 3)) a2 0 100) = 0)) → ((((fX12_in (mX12_lacks μ (fX12_in μ a0 0 3)) a3 0 100) = 0) → True) ∧ ((¬ ((fX12_in (mX12_lacks μ (fX12_in μ a0 0 3)) a3 0 100) = 0)) → (vp_in (436 + (3 * a0)) 625 ∧ qX12_sets (mX12_lacks μ (fX12_in μ a0 0 3)) (436 + (3 * a0)) a1 ∧ vp_in ((436 + (3 * a0)) + 1) 625 ∧ vp_in ((436 + (3 * a0)) + 2) 625 ∧ True)))))))) ∧ ((¬ ((fX12_lacks μ (fX12_in μ a0 0 3)) = 0)) → True))
set_option maxHeartbeats 40000000 in
set_option maxRecDepth 100000 in
theorem sX12_setGenerator {g : rj_G} {ω : rj_W} (hω : rj_ok ω) (μ : rj_M) (a0 : Int32) (a1 : Int32) (a2 : Int32) (a3 : Int32)   (hq : qX12_setGenerator μ a0 a1 a2 a3) : rj_Sp g yX12_setGenerator wsX12_setGenerator (rj_rm 3 0) [.ref (ω.2.2 395), .int a0, .int a1, .int a2, .int a3] ω μ (rj_D (.inl (some (.int (fX12_setGenerator μ a0 a1 a2 a3)))) ω (mX12_setGenerator μ a0 a1 a2 a3)) := by
  have hqa := hq
  unfold qX12_setGenerator at hqa
  refine rj_of' (cc := cX12_setGenerator) (nL := 6) (ret := (some .int)) (own := RX12) (l0 := [(0, .ref (ω.2.2 395)), (1, .int a0), (2, .int a1), (3, .int a2), (4, .int a3)]) rfl (by decide +kernel) rfl (Nat.le_of_ble_eq_true rfl) rfl ?_
  refine rj_aload_n 0 dX12_setGenerator_0 rfl rfl ?_
  refine rj_iload_n 1 dX12_setGenerator_1 rfl rfl ?_
  refine rj_iconst (v := 0) dX12_setGenerator_2 rfl (by decide) ?_
  refine rj_iconst (v := 3) dX12_setGenerator_3 rfl (by decide) ?_
  refine rj_cS (rest := [.ref (ω.2.2 395)]) (sX12_in (g := g) (ω := ω) hω μ a0 0 3   ) gX12_setGenerator_X12_in rfl hSX12_in ⟨Nat.le_of_ble_eq_true rfl, Nat.le_of_ble_eq_true rfl⟩ dX12_setGenerator_4 rfl rfl rfl (Nat.le_of_ble_eq_true rfl) rfl (Nat.le_of_ble_eq_true rfl) rfl ?_
  refine rj_cV (rest := []) (sX12_lacks (g := g) (ω := ω) hω μ (fX12_in μ a0 0 3)   ) gX12_setGenerator_X12_lacks (rj_lt hω (k := 395) rfl) (rj_sh hω ly_395) rfl rfl hVX12_lacks ⟨Nat.le_of_ble_eq_true rfl, Nat.le_of_ble_eq_true rfl⟩ dX12_setGenerator_7 rfl rfl rfl (Nat.le_of_ble_eq_true rfl) rfl (Nat.le_of_ble_eq_true rfl) rfl ?_
  refine rj_if_ne dX12_setGenerator_10 rfl rfl (fun h1 => ?_) (fun h1 => ?_)
  · skip
    refine rj_iconst (v := 0) dX12_setGenerator_58 rfl (by decide) ?_
    exact rj_iret dX12_setGenerator_59 rfl (Nat.le_of_ble_eq_true rfl) (Nat.le_of_ble_eq_true rfl) ⟨(by unfold fX12_setGenerator; rw [if_neg h1]; try rfl), rfl, (by unfold mX12_setGenerator; rw [if_neg h1]; try rfl)⟩
  · have hq2 := (And.left hqa) h1
    refine rj_aload_n 0 dX12_setGenerator_13 rfl rfl ?_
    refine rj_iload_n 2 dX12_setGenerator_14 rfl rfl ?_
    refine rj_iconst (v := 0) dX12_setGenerator_15 rfl (by decide) ?_
    refine rj_sipush (v := 200) dX12_setGenerator_16 rfl (by decide) ?_
    refine rj_cS (rest := [.ref (ω.2.2 395)]) (sX12_in (g := g) (ω := ω) hω (mX12_lacks μ (fX12_in μ a0 0 3)) a1 0 200   ) gX12_setGenerator_X12_in rfl hSX12_in ⟨Nat.le_of_ble_eq_true rfl, Nat.le_of_ble_eq_true rfl⟩ dX12_setGenerator_19 rfl rfl rfl (Nat.le_of_ble_eq_true rfl) rfl (Nat.le_of_ble_eq_true rfl) rfl ?_
    refine rj_if_eq dX12_setGenerator_22 rfl rfl (fun h2 => ?_) (fun h2 => ?_)
    · skip
      refine rj_iconst (v := 0) dX12_setGenerator_50 rfl (by decide) ?_
      refine rj_iconst (v := 2) dX12_setGenerator_51 rfl (by decide) ?_
      refine rj_cV (rest := []) (sX12_noF (g := g) (ω := ω) hω (mX12_lacks μ (fX12_in μ a0 0 3)) 2   ) gX12_setGenerator_X12_no (rj_lt hω (k := 395) rfl) (rj_sh hω ly_395) rfl rfl hVX12_no ⟨Nat.le_of_ble_eq_true rfl, Nat.le_of_ble_eq_true rfl⟩ dX12_setGenerator_52 rfl rfl rfl (Nat.le_of_ble_eq_true rfl) rfl (Nat.le_of_ble_eq_true rfl) rfl ?_
      refine rj_if_eq dX12_setGenerator_55 rfl rfl (fun h3 => ?_) (fun h3 => ?_)
      · exact absurd h3 (by decide)
      · refine rj_iconst (v := 0) dX12_setGenerator_58 rfl (by decide) ?_
        exact rj_iret dX12_setGenerator_59 rfl (Nat.le_of_ble_eq_true rfl) (Nat.le_of_ble_eq_true rfl) ⟨(by unfold fX12_setGenerator; rw [if_pos h1]; rw [if_pos h2]; try rfl), rfl, (by unfold mX12_setGenerator; rw [if_pos h1]; rw [if_pos h2]; try rfl)⟩
    · have hq4 := (And.right hq2) h2
      refine rj_iload_n 3 dX12_setGenerator_25 rfl rfl ?_
      refine rj_iconst (v := 0) dX12_setGenerator_26 rfl (by decide) ?_
      refine rj_bipush (v := 100) dX12_setGenerator_27 rfl (by decide) ?_
      refine rj_cS (rest := [.ref (ω.2.2 395)]) (sX12_in (g := g) (ω := ω) hω (mX12_lacks μ (fX12_in μ a0 0 3)) a2 0 100   ) gX12_setGenerator_X12_in rfl hSX12_in ⟨Nat.le_of_ble_eq_true rfl, Nat.le_of_ble_eq_true rfl⟩ dX12_setGenerator_29 rfl rfl rfl (Nat.le_of_ble_eq_true rfl) rfl (Nat.le_of_ble_eq_true rfl) rfl ?_
      refine rj_if_eq dX12_setGenerator_32 rfl rfl (fun h4 => ?_) (fun h4 => ?_)
      · skip
        refine rj_iconst (v := 0) dX12_setGenerator_50 rfl (by decide) ?_
        refine rj_iconst (v := 2) dX12_setGenerator_51 rfl (by decide) ?_
        refine rj_cV (rest := []) (sX12_noF (g := g) (ω := ω) hω (mX12_lacks μ (fX12_in μ a0 0 3)) 2   ) gX12_setGenerator_X12_no (rj_lt hω (k := 395) rfl) (rj_sh hω ly_395) rfl rfl hVX12_no ⟨Nat.le_of_ble_eq_true rfl, Nat.le_of_ble_eq_true rfl⟩ dX12_setGenerator_52 rfl rfl rfl (Nat.le_of_ble_eq_true rfl) rfl (Nat.le_of_ble_eq_true rfl) rfl ?_
        refine rj_if_eq dX12_setGenerator_55 rfl rfl (fun h5 => ?_) (fun h5 => ?_)
        · exact absurd h5 (by decide)
        · refine rj_iconst (v := 0) dX12_setGenerator_58 rfl (by decide) ?_
          exact rj_iret dX12_setGenerator_59 rfl (Nat.le_of_ble_eq_true rfl) (Nat.le_of_ble_eq_true rfl) ⟨(by unfold fX12_setGenerator; rw [if_pos h1]; rw [if_neg h2]; rw [if_pos h4]; try rfl), rfl, (by unfold mX12_setGenerator; rw [if_pos h1]; rw [if_neg h2]; rw [if_pos h4]; try rfl)⟩
      · have hq6 := (And.right hq4) h4
        refine rj_iload 4 dX12_setGenerator_35 rfl rfl ?_
        refine rj_iconst (v := 0) dX12_setGenerator_37 rfl (by decide) ?_
        refine rj_bipush (v := 100) dX12_setGenerator_38 rfl (by decide) ?_
        refine rj_cS (rest := [.ref (ω.2.2 395)]) (sX12_in (g := g) (ω := ω) hω (mX12_lacks μ (fX12_in μ a0 0 3)) a3 0 100   ) gX12_setGenerator_X12_in rfl hSX12_in ⟨Nat.le_of_ble_eq_true rfl, Nat.le_of_ble_eq_true rfl⟩ dX12_setGenerator_40 rfl rfl rfl (Nat.le_of_ble_eq_true rfl) rfl (Nat.le_of_ble_eq_true rfl) rfl ?_
        refine rj_if_eq dX12_setGenerator_43 rfl rfl (fun h6 => ?_) (fun h6 => ?_)
        · skip
          refine rj_iconst (v := 0) dX12_setGenerator_50 rfl (by decide) ?_
          refine rj_iconst (v := 2) dX12_setGenerator_51 rfl (by decide) ?_
          refine rj_cV (rest := []) (sX12_noF (g := g) (ω := ω) hω (mX12_lacks μ (fX12_in μ a0 0 3)) 2   ) gX12_setGenerator_X12_no (rj_lt hω (k := 395) rfl) (rj_sh hω ly_395) rfl rfl hVX12_no ⟨Nat.le_of_ble_eq_true rfl, Nat.le_of_ble_eq_true rfl⟩ dX12_setGenerator_52 rfl rfl rfl (Nat.le_of_ble_eq_true rfl) rfl (Nat.le_of_ble_eq_true rfl) rfl ?_
          refine rj_if_eq dX12_setGenerator_55 rfl rfl (fun h7 => ?_) (fun h7 => ?_)
          · exact absurd h7 (by decide)
          · refine rj_iconst (v := 0) dX12_setGenerator_58 rfl (by decide) ?_
            exact rj_iret dX12_setGenerator_59 rfl (Nat.le_of_ble_eq_true rfl) (Nat.le_of_ble_eq_true rfl) ⟨(by unfold fX12_setGenerator; rw [if_pos h1]; rw [if_neg h2]; rw [if_neg h4]; rw [if_pos h6]; try rfl), rfl, (by unfold mX12_setGenerator; rw [if_pos h1]; rw [if_neg h2]; rw [if_neg h4]; rw [if_pos h6]; try rfl)⟩
        · have hq8 := (And.right hq6) h6
          refine rj_iconst (v := 1) dX12_setGenerator_46 rfl (by decide) ?_
          refine rj_goto dX12_setGenerator_47 rfl ?_
          refine rj_iconst (v := 2) dX12_setGenerator_51 rfl (by decide) ?_
          refine rj_cV (rest := []) (sX12_noT (g := g) (ω := ω) hω (mX12_lacks μ (fX12_in μ a0 0 3)) 2   ) gX12_setGenerator_X12_no (rj_lt hω (k := 395) rfl) (rj_sh hω ly_395) rfl rfl hVX12_no ⟨Nat.le_of_ble_eq_true rfl, Nat.le_of_ble_eq_true rfl⟩ dX12_setGenerator_52 rfl rfl rfl (Nat.le_of_ble_eq_true rfl) rfl (Nat.le_of_ble_eq_true rfl) rfl ?_
          refine rj_if_eq dX12_setGenerator_55 rfl rfl (fun h8 => ?_) (fun h8 => ?_)
          · refine rj_aload_n 0 dX12_setGenerator_60 rfl rfl ?_
            refine rj_sipush (v := 436) dX12_setGenerator_61 rfl (by decide) ?_
            refine rj_iconst (v := 3) dX12_setGenerator_64 rfl (by decide) ?_
            refine rj_iload_n 1 dX12_setGenerator_65 rfl rfl ?_
            refine rj_imul dX12_setGenerator_66 rfl ?_
            refine rj_iadd dX12_setGenerator_67 rfl ?_
            refine rj_iload_n 2 dX12_setGenerator_68 rfl rfl ?_
            refine rj_cV (rest := []) (sX12_sets (g := g) (ω := ω) hω (mX12_lacks μ (fX12_in μ a0 0 3)) (436 + (3 * a0)) a1  (And.left hq8) (And.left (And.right hq8))) gX12_setGenerator_X12_sets (rj_lt hω (k := 395) rfl) (rj_sh hω ly_395) rfl rfl hVX12_sets ⟨Nat.le_of_ble_eq_true rfl, Nat.le_of_ble_eq_true rfl⟩ dX12_setGenerator_69 rfl rfl rfl (Nat.le_of_ble_eq_true rfl) rfl (Nat.le_of_ble_eq_true rfl) rfl ?_
            refine rj_istore (l' := [(5, .int (fX12_sets (mX12_lacks μ (fX12_in μ a0 0 3)) (436 + (3 * a0)) a1)), (0, .ref (ω.2.2 395)), (1, .int a0), (2, .int a1), (3, .int a2), (4, .int a3)]) dX12_setGenerator_72 rfl (rj_bl rfl) rfl ?_
            refine rj_aload_n 1 dX12_setGenerator_74 rfl rfl ?_
            refine rj_getR (C0 := RX12) (T := TX12) (N := 16) (j := 1) (r := 396) dX12_setGenerator_75 rfl vX12_setGenerator_12 rfl (rj_lt hω (k := 395) rfl) (rj_sh hω ly_395) (by decide) kX12_setGenerator_9 rfl ?_
            refine rj_sipush (v := 436) dX12_setGenerator_78 rfl (by decide) ?_
            refine rj_iconst (v := 3) dX12_setGenerator_81 rfl (by decide) ?_
            refine rj_iload_n 2 dX12_setGenerator_82 rfl rfl ?_
            refine rj_imul dX12_setGenerator_83 rfl ?_
            refine rj_iadd dX12_setGenerator_84 rfl ?_
            refine rj_iconst (v := 1) dX12_setGenerator_85 rfl (by decide) ?_
            refine rj_iadd dX12_setGenerator_86 rfl ?_
            refine rj_iload_n 4 dX12_setGenerator_87 rfl rfl ?_
            refine rj_iast dX12_setGenerator_88 rfl (rj_lt hω (k := 396) rfl) (rj_sh hω ly_396) (And.left (And.right (And.right hq8))) ?_
            refine rj_aload_n 1 dX12_setGenerator_89 rfl rfl ?_
            refine rj_getR (C0 := RX12) (T := TX12) (N := 16) (j := 1) (r := 396) dX12_setGenerator_90 rfl vX12_setGenerator_12 rfl (rj_lt hω (k := 395) rfl) (rj_sh hω ly_395) (by decide) kX12_setGenerator_9 rfl ?_
            refine rj_sipush (v := 436) dX12_setGenerator_93 rfl (by decide) ?_
            refine rj_iconst (v := 3) dX12_setGenerator_96 rfl (by decide) ?_
            refine rj_iload_n 2 dX12_setGenerator_97 rfl rfl ?_
            refine rj_imul dX12_setGenerator_98 rfl ?_
            refine rj_iadd dX12_setGenerator_99 rfl ?_
            refine rj_iconst (v := 2) dX12_setGenerator_100 rfl (by decide) ?_
            refine rj_iadd dX12_setGenerator_101 rfl ?_
            refine rj_iload 5 dX12_setGenerator_102 rfl rfl ?_
            refine rj_iast dX12_setGenerator_104 rfl (rj_lt hω (k := 396) rfl) (rj_sh hω ly_396) (And.left (And.right (And.right (And.right hq8)))) ?_
            refine rj_iload 0 dX12_setGenerator_105 rfl rfl ?_
            exact rj_iret dX12_setGenerator_107 rfl (Nat.le_of_ble_eq_true rfl) (Nat.le_of_ble_eq_true rfl) ⟨(by unfold fX12_setGenerator; rw [if_pos h1]; rw [if_neg h2]; rw [if_neg h4]; rw [if_neg h6]; try rfl), rfl, (by unfold mX12_setGenerator; rw [if_pos h1]; rw [if_neg h2]; rw [if_neg h4]; rw [if_neg h6]; try rfl)⟩
          · exact absurd (by decide) h8
