theorem hSX12_walk : yX12_walk.cls ≠ "java/lang/invoke/MethodHandle" ∧ yX12_walk.cls ≠ "java/lang/invoke/VarHandle" ∧ (parseMethodDescriptor yX12_walk.desc).map (fun d => d.parameters.length) = some 2 := by decide +kernel
theorem hVX12_walk : yX12_walk.cls = RX12 ∧ yX12_walk.cls ≠ "java/lang/invoke/MethodHandle" ∧ yX12_walk.cls ≠ "java/lang/invoke/VarHandle" ∧ (parseMethodDescriptor yX12_walk.desc).map (fun d => d.parameters.length) = some 2 := by decide +kernel
def fX12_walk (μ : rj_M) (a0 : Int32) (a1 : Int32) : Int32 := (if (fX12_isStage μ a0) = 0 then 0 else (if (fX12_isStage μ a1) = 0 then 0 else (fX12_walkOf (mX12_lacksT μ) a0 a1)))
def mX12_walk (μ : rj_M) (a0 : Int32) (a1 : Int32) : rj_M := (if (fX12_isStage μ a0) = 0 then (mX12_lacksF μ) else (if (fX12_isStage μ a1) = 0 then (mX12_lacksF μ) else (mX12_lacksT μ)))
def qX12_walk (μ : rj_M) (a0 : Int32) (a1 : Int32) : Prop := ((((fX12_isStage μ a0) = 0) → True) ∧ ((¬ ((fX12_isStage μ a0) = 0)) → ((((fX12_isStage μ a1) = 0) → True) ∧ ((¬ ((fX12_isStage μ a1) = 0)) → (qX12_walkOf (mX12_lacksT μ) a0 a1 ∧ True)))))
set_option maxHeartbeats 40000000 in
set_option maxRecDepth 100000 in
theorem sX12_walk {g : rj_G} {ω : rj_W} (hω : rj_ok ω) (μ : rj_M) (a0 : Int32) (a1 : Int32)   (hq : qX12_walk μ a0 a1) : rj_Sp g yX12_walk wsX12_walk (rj_rm 2 0) [.ref (ω.2.2 395), .int a0, .int a1] ω μ (rj_D (.inl (some (.int (fX12_walk μ a0 a1)))) ω (mX12_walk μ a0 a1)) := by
  have hqa := hq
  unfold qX12_walk at hqa
  refine rj_of' (cc := cX12_walk) (nL := 3) (ret := (some .int)) (own := RX12) (l0 := [(0, .ref (ω.2.2 395)), (1, .int a0), (2, .int a1)]) rfl (by decide +kernel) rfl (Nat.le_of_ble_eq_true rfl) rfl ?_
  refine rj_aload_n 0 dX12_walk_0 rfl rfl ?_
  refine rj_iload_n 1 dX12_walk_1 rfl rfl ?_
  refine rj_cS (rest := [.ref (ω.2.2 395)]) (sX12_isStage (g := g) (ω := ω) hω μ a0   ) gX12_walk_X12_isStage rfl hSX12_isStage ⟨Nat.le_of_ble_eq_true rfl, Nat.le_of_ble_eq_true rfl⟩ dX12_walk_2 rfl rfl rfl (Nat.le_of_ble_eq_true rfl) rfl (Nat.le_of_ble_eq_true rfl) rfl ?_
  refine rj_if_eq dX12_walk_5 rfl rfl (fun h1 => ?_) (fun h1 => ?_)
  · skip
    refine rj_iconst (v := 0) dX12_walk_19 rfl (by decide) ?_
    refine rj_cV (rest := []) (sX12_lacksF (g := g) (ω := ω) hω μ   ) gX12_walk_X12_lacks (rj_lt hω (k := 395) rfl) (rj_sh hω ly_395) rfl rfl hVX12_lacks ⟨Nat.le_of_ble_eq_true rfl, Nat.le_of_ble_eq_true rfl⟩ dX12_walk_20 rfl rfl rfl (Nat.le_of_ble_eq_true rfl) rfl (Nat.le_of_ble_eq_true rfl) rfl ?_
    refine rj_if_eq dX12_walk_23 rfl rfl (fun h2 => ?_) (fun h2 => ?_)
    · exact absurd h2 (by decide)
    · refine rj_iconst (v := 0) dX12_walk_26 rfl (by decide) ?_
      refine rj_goto dX12_walk_27 rfl ?_
      exact rj_iret dX12_walk_36 rfl (Nat.le_of_ble_eq_true rfl) (Nat.le_of_ble_eq_true rfl) ⟨(by unfold fX12_walk; rw [if_pos h1]; try rfl), rfl, (by unfold mX12_walk; rw [if_pos h1]; try rfl)⟩
  · have hq2 := (And.right hqa) h1
    refine rj_iload_n 2 dX12_walk_8 rfl rfl ?_
    refine rj_cS (rest := [.ref (ω.2.2 395)]) (sX12_isStage (g := g) (ω := ω) hω μ a1   ) gX12_walk_X12_isStage rfl hSX12_isStage ⟨Nat.le_of_ble_eq_true rfl, Nat.le_of_ble_eq_true rfl⟩ dX12_walk_9 rfl rfl rfl (Nat.le_of_ble_eq_true rfl) rfl (Nat.le_of_ble_eq_true rfl) rfl ?_
    refine rj_if_eq dX12_walk_12 rfl rfl (fun h3 => ?_) (fun h3 => ?_)
    · skip
      refine rj_iconst (v := 0) dX12_walk_19 rfl (by decide) ?_
      refine rj_cV (rest := []) (sX12_lacksF (g := g) (ω := ω) hω μ   ) gX12_walk_X12_lacks (rj_lt hω (k := 395) rfl) (rj_sh hω ly_395) rfl rfl hVX12_lacks ⟨Nat.le_of_ble_eq_true rfl, Nat.le_of_ble_eq_true rfl⟩ dX12_walk_20 rfl rfl rfl (Nat.le_of_ble_eq_true rfl) rfl (Nat.le_of_ble_eq_true rfl) rfl ?_
      refine rj_if_eq dX12_walk_23 rfl rfl (fun h4 => ?_) (fun h4 => ?_)
      · exact absurd h4 (by decide)
      · refine rj_iconst (v := 0) dX12_walk_26 rfl (by decide) ?_
        refine rj_goto dX12_walk_27 rfl ?_
        exact rj_iret dX12_walk_36 rfl (Nat.le_of_ble_eq_true rfl) (Nat.le_of_ble_eq_true rfl) ⟨(by unfold fX12_walk; rw [if_neg h1]; rw [if_pos h3]; try rfl), rfl, (by unfold mX12_walk; rw [if_neg h1]; rw [if_pos h3]; try rfl)⟩
    · have hq4 := (And.right hq2) h3
      refine rj_iconst (v := 1) dX12_walk_15 rfl (by decide) ?_
      refine rj_goto dX12_walk_16 rfl ?_
      refine rj_cV (rest := []) (sX12_lacksT (g := g) (ω := ω) hω μ   ) gX12_walk_X12_lacks (rj_lt hω (k := 395) rfl) (rj_sh hω ly_395) rfl rfl hVX12_lacks ⟨Nat.le_of_ble_eq_true rfl, Nat.le_of_ble_eq_true rfl⟩ dX12_walk_20 rfl rfl rfl (Nat.le_of_ble_eq_true rfl) rfl (Nat.le_of_ble_eq_true rfl) rfl ?_
      refine rj_if_eq dX12_walk_23 rfl rfl (fun h5 => ?_) (fun h5 => ?_)
      · refine rj_aload_n 0 dX12_walk_30 rfl rfl ?_
        refine rj_iload_n 1 dX12_walk_31 rfl rfl ?_
        refine rj_iload_n 2 dX12_walk_32 rfl rfl ?_
        refine rj_cV (rest := []) (sX12_walkOf (g := g) (ω := ω) hω (mX12_lacksT μ) a0 a1  (rj_isStage h1) (rj_isStage h3) (And.left hq4)) gX12_walk_X12_walkOf (rj_lt hω (k := 395) rfl) (rj_sh hω ly_395) rfl rfl hVX12_walkOf ⟨Nat.le_of_ble_eq_true rfl, Nat.le_of_ble_eq_true rfl⟩ dX12_walk_33 rfl rfl rfl (Nat.le_of_ble_eq_true rfl) rfl (Nat.le_of_ble_eq_true rfl) rfl ?_
        exact rj_iret dX12_walk_36 rfl (Nat.le_of_ble_eq_true rfl) (Nat.le_of_ble_eq_true rfl) ⟨(by unfold fX12_walk; rw [if_neg h1]; rw [if_neg h3]; try rfl), rfl, (by unfold mX12_walk; rw [if_neg h1]; rw [if_neg h3]; try rfl)⟩
      · exact absurd (by decide) h5
theorem hSX12_act : yX12_act.cls ≠ "java/lang/invoke/MethodHandle" ∧ yX12_act.cls ≠ "java/lang/invoke/VarHandle" ∧ (parseMethodDescriptor yX12_act.desc).map (fun d => d.parameters.length) = some 5 := by decide +kernel
theorem hVX12_act : yX12_act.cls = RX12 ∧ yX12_act.cls ≠ "java/lang/invoke/MethodHandle" ∧ yX12_act.cls ≠ "java/lang/invoke/VarHandle" ∧ (parseMethodDescriptor yX12_act.desc).map (fun d => d.parameters.length) = some 5 := by decide +kernel
theorem vX12_act_12 : ∀ w ∈ u_ws RX12 TX12 16, w ∈ wsX12_act := by decide +kernel
theorem kX12_act_9 : Cond.fieldLink RX12 9 (TX12 1).1 (TX12 1).2.1 (TX12 1).2.2.1 ∈ wsX12_act := by decide +kernel
def bX12_act_97 (μ : rj_M) (a0 : Int32) (a1 : Int32) (a2 : Int32) (a3 : Int32) (a4 : Int32) (j97 : Nat) (s97 : Unit) : Unit ⊕ (Nat × Unit) := (if (fX12_its (mX12_lacks μ (fX12_isStage μ a0)) (nI j97) 0) = 1 then .inl () else .inr (j97, ()))
set_option maxHeartbeats 4000000 in
set_option maxRecDepth 100000 in
theorem lX12_act_97 {g : rj_G} {ω : rj_W} (hω : rj_ok ω) (μ : rj_M) (a0 : Int32) (a1 : Int32) (a2 : Int32) (a3 : Int32) (a4 : Int32)     (h1 : ((fX12_lacks μ (fX12_isStage μ a0)) = 0)) (h2 : ¬ ((fX12_in (mX12_lacks μ (fX12_isStage μ a0)) a1 0 5759) = 0)) (h4 : ¬ ((fX12_in (mX12_lacks μ (fX12_isStage μ a0)) a2 10 240) = 0)) (h6 : ¬ ((fX12_in (mX12_lacks μ (fX12_isStage μ a0)) a3 0 60) = 0)) (h8 : ¬ ((fX12_in (mX12_lacks μ (fX12_isStage μ a0)) a4 1 4095) = 0)) (h10 : ¬ ((a1 - a3) < 0)) (h12 : ¬ (5760 < (a1 + a2))) {F : rj_F} : ∀ (r j : Nat) (s : Unit), j + r = 16 → (rj_R g RX12 cX12_act 10 (some .int) wsX12_act [] (rj_rm 2 0) F 0 ω (mX12_lacks μ (fX12_isStage μ a0)) [(0, .ref (ω.2.2 395)), (1, .int a0), (2, .int a1), (3, .int a2), (4, .int a3), (5, .int a4), (6, .int 1), (7, .int (nI (rj_br (bX12_act_97 μ a0 a1 a2 a3 a4) r j s).1))] 121 []) → rj_R g RX12 cX12_act 10 (some .int) wsX12_act [] (rj_rm 2 0) F 0 ω (mX12_lacks μ (fX12_isStage μ a0)) [(0, .ref (ω.2.2 395)), (1, .int a0), (2, .int a1), (3, .int a2), (4, .int a3), (5, .int a4), (6, .int 1), (7, .int (nI j))] 97 [] := by
  intro r
  induction r with
  | zero =>
    intro j s hj K
    have e0 : j = 16 := by omega
    have hge : 16 ≤ nI j := by
      rw [e0]
      exact Int32.le_refl _
    refine rj_iload 7 dX12_act_97 rfl rfl ?_
    refine rj_bipush (v := 16) dX12_act_99 rfl (by decide) ?_
    refine rj_icmp_ge dX12_act_101 rfl rfl (fun h17 => ?_) (fun h17 => ?_)
    · rw [rj_br_0] at K
      exact K
    · exact absurd hge h17
  | succ r ih =>
    intro j97 s97 hj K
    have hl97 : j97 < 16 := by omega
    have hg97 : ¬ 16 ≤ nI j97 := nI_ge hl97 (rj_bl rfl)
    refine rj_iload 7 dX12_act_97 rfl rfl ?_
    refine rj_bipush (v := 16) dX12_act_99 rfl (by decide) ?_
    refine rj_icmp_ge dX12_act_101 rfl rfl (fun h15 => ?_) (fun h15 => ?_)
    · exact absurd h15 hg97
    · refine rj_aload_n 0 dX12_act_104 rfl rfl ?_
      refine rj_iload 7 dX12_act_105 rfl rfl ?_
      refine rj_iconst (v := 0) dX12_act_107 rfl (by decide) ?_
      refine rj_cV (rest := []) (sX12_its (g := g) (ω := ω) hω (mX12_lacks μ (fX12_isStage μ a0)) (nI j97) 0  (vp_in_nI hl97 (rj_bl rfl)) (vp_in_nI (n := 0) (rj_bl rfl) (rj_bl rfl)) ) gX12_act_X12_its (rj_lt hω (k := 395) rfl) (rj_sh hω ly_395) rfl rfl hVX12_its ⟨Nat.le_of_ble_eq_true rfl, Nat.le_of_ble_eq_true rfl⟩ dX12_act_108 rfl rfl rfl (Nat.le_of_ble_eq_true rfl) rfl (Nat.le_of_ble_eq_true rfl) rfl ?_
      refine rj_iconst (v := 1) dX12_act_111 rfl (by decide) ?_
      refine rj_icmp_ne dX12_act_112 rfl rfl (fun h16 => ?_) (fun h16 => ?_)
      · skip
        have e : bX12_act_97 μ a0 a1 a2 a3 a4 j97 s97 = .inr (j97, ()) := by unfold bX12_act_97; rw [if_neg h16]; try rfl
        exact rj_sub (l' := [(0, .ref (ω.2.2 395)), (1, .int a0), (2, .int a1), (3, .int a2), (4, .int a3), (5, .int a4), (6, .int 1), (7, .int (nI j97))]) [0, 1, 2, 3, 4, 5, 6, 7] rfl (by rw [rj_br_r e] at K; exact K)
      · skip
        refine rj_iinc (v := nI (j97 + 1)) (l' := [(7, .int (nI (j97 + 1))), (0, .ref (ω.2.2 395)), (1, .int a0), (2, .int a1), (3, .int a2), (4, .int a3), (5, .int a4), (6, .int 1)]) 7 dX12_act_115 rfl rfl (nI_succ j97).symm (rj_bl rfl) rfl ?_
        refine rj_goto dX12_act_118 rfl ?_
        have e : bX12_act_97 μ a0 a1 a2 a3 a4 j97 s97 = .inl () := by unfold bX12_act_97; rw [if_pos h16]; try rfl
        exact rj_sub (l' := [(0, .ref (ω.2.2 395)), (1, .int a0), (2, .int a1), (3, .int a2), (4, .int a3), (5, .int a4), (6, .int 1), (7, .int (nI (j97 + 1)))]) [1, 2, 3, 4, 5, 6, 7, 0] rfl (ih (j97 + 1) () (by omega) (by rw [rj_br_l e] at K; exact K))
def bX12_act_220 (μ : rj_M) (a0 : Int32) (a1 : Int32) (a2 : Int32) (a3 : Int32) (a4 : Int32) (j220 : Nat) (s220 : rj_M) : rj_M := (rj_pi s220 396 ((119 + (16 * (nI j220))) + (nI (rj_br (bX12_act_97 μ a0 a1 a2 a3 a4) 16 0 ()).1)).toNatClampNeg 0)
def qX12_act_220 (μ : rj_M) (a0 : Int32) (a1 : Int32) (a2 : Int32) (a3 : Int32) (a4 : Int32) (j220 : Nat) (s220 : rj_M) : Prop := (vp_in ((119 + (16 * (nI j220))) + (nI (rj_br (bX12_act_97 μ a0 a1 a2 a3 a4) 16 0 ()).1)) 625 ∧ True)
set_option maxHeartbeats 4000000 in
set_option maxRecDepth 100000 in
theorem lX12_act_220 {g : rj_G} {ω : rj_W} (hω : rj_ok ω) (μ : rj_M) (a0 : Int32) (a1 : Int32) (a2 : Int32) (a3 : Int32) (a4 : Int32)     (h1 : ((fX12_lacks μ (fX12_isStage μ a0)) = 0)) (h2 : ¬ ((fX12_in (mX12_lacks μ (fX12_isStage μ a0)) a1 0 5759) = 0)) (h4 : ¬ ((fX12_in (mX12_lacks μ (fX12_isStage μ a0)) a2 10 240) = 0)) (h6 : ¬ ((fX12_in (mX12_lacks μ (fX12_isStage μ a0)) a3 0 60) = 0)) (h8 : ¬ ((fX12_in (mX12_lacks μ (fX12_isStage μ a0)) a4 1 4095) = 0)) (h10 : ¬ ((a1 - a3) < 0)) (h12 : ¬ (5760 < (a1 + a2))) (h18 : ¬ (16 ≤ nI (rj_br (bX12_act_97 μ a0 a1 a2 a3 a4) 16 0 ()).1)) {F : rj_F} : ∀ (r j : Nat) (s : rj_M), j + r = 12 → (True → ra_fo (qX12_act_220 μ a0 a1 a2 a3 a4) (bX12_act_220 μ a0 a1 a2 a3 a4) r j s) → (rj_R g RX12 cX12_act 10 (some .int) wsX12_act [] (rj_rm 2 0) F 0 ω (rj_fo (bX12_act_220 μ a0 a1 a2 a3 a4) r j s) [(0, .ref (ω.2.2 395)), (1, .int a0), (2, .int a1), (3, .int a2), (4, .int a3), (5, .int a4), (6, .int 1), (7, .int (nI (rj_br (bX12_act_97 μ a0 a1 a2 a3 a4) 16 0 ()).1)), (8, .int (23 + (6 * (nI (rj_br (bX12_act_97 μ a0 a1 a2 a3 a4) 16 0 ()).1)))), (9, .int (nI 12))] 250 []) → rj_R g RX12 cX12_act 10 (some .int) wsX12_act [] (rj_rm 2 0) F 0 ω s [(0, .ref (ω.2.2 395)), (1, .int a0), (2, .int a1), (3, .int a2), (4, .int a3), (5, .int a4), (6, .int 1), (7, .int (nI (rj_br (bX12_act_97 μ a0 a1 a2 a3 a4) 16 0 ()).1)), (8, .int (23 + (6 * (nI (rj_br (bX12_act_97 μ a0 a1 a2 a3 a4) 16 0 ()).1)))), (9, .int (nI j))] 220 [] := by
  intro r
  induction r with
  | zero =>
    intro j s hj hq0 K
    have e0 : j = 12 := by omega
    have hge : 12 ≤ nI j := by
      rw [e0]
      exact Int32.le_refl _
    refine rj_iload 9 dX12_act_220 rfl rfl ?_
    refine rj_bipush (v := 12) dX12_act_222 rfl (by decide) ?_
    refine rj_icmp_ge dX12_act_224 rfl rfl (fun h22 => ?_) (fun h22 => ?_)
    · have e1 : nI j = nI 12 := by rw [e0]
      rw [e1]
      exact K
    · exact absurd hge h22
  | succ r ih =>
    intro j220 s220 hj hq0 K
    have hl220 : j220 < 12 := by omega
    have hg220 : ¬ 12 ≤ nI j220 := nI_ge hl220 (rj_bl rfl)
    have hqa := ra_fo_q (hq0 True.intro)
    unfold qX12_act_220 at hqa
    refine rj_iload 9 dX12_act_220 rfl rfl ?_
    refine rj_bipush (v := 12) dX12_act_222 rfl (by decide) ?_
    refine rj_icmp_ge dX12_act_224 rfl rfl (fun h21 => ?_) (fun h21 => ?_)
    · exact absurd h21 hg220
    · refine rj_aload_n 0 dX12_act_227 rfl rfl ?_
      refine rj_getR (C0 := RX12) (T := TX12) (N := 16) (j := 1) (r := 396) dX12_act_228 rfl vX12_act_12 rfl (rj_lt hω (k := 395) rfl) (rj_sh hω ly_395) (by decide) kX12_act_9 rfl ?_
      refine rj_bipush (v := 119) dX12_act_231 rfl (by decide) ?_
      refine rj_bipush (v := 16) dX12_act_233 rfl (by decide) ?_
      refine rj_iload 9 dX12_act_235 rfl rfl ?_
      refine rj_imul dX12_act_237 rfl ?_
      refine rj_iadd dX12_act_238 rfl ?_
      refine rj_iload 7 dX12_act_239 rfl rfl ?_
      refine rj_iadd dX12_act_241 rfl ?_
      refine rj_iconst (v := 0) dX12_act_242 rfl (by decide) ?_
      refine rj_iast dX12_act_243 rfl (rj_lt hω (k := 396) rfl) (rj_sh hω ly_396) (And.left hqa) ?_
      refine rj_iinc (v := nI (j220 + 1)) (l' := [(9, .int (nI (j220 + 1))), (0, .ref (ω.2.2 395)), (1, .int a0), (2, .int a1), (3, .int a2), (4, .int a3), (5, .int a4), (6, .int 1), (7, .int (nI (rj_br (bX12_act_97 μ a0 a1 a2 a3 a4) 16 0 ()).1)), (8, .int (23 + (6 * (nI (rj_br (bX12_act_97 μ a0 a1 a2 a3 a4) 16 0 ()).1))))]) 9 dX12_act_244 rfl rfl (nI_succ j220).symm (rj_bl rfl) rfl ?_
      refine rj_goto dX12_act_247 rfl ?_
      have e : bX12_act_220 μ a0 a1 a2 a3 a4 j220 s220 = (rj_pi s220 396 ((119 + (16 * (nI j220))) + (nI (rj_br (bX12_act_97 μ a0 a1 a2 a3 a4) 16 0 ()).1)).toNatClampNeg 0) := by unfold bX12_act_220; rfl
      exact rj_sub (l' := [(0, .ref (ω.2.2 395)), (1, .int a0), (2, .int a1), (3, .int a2), (4, .int a3), (5, .int a4), (6, .int 1), (7, .int (nI (rj_br (bX12_act_97 μ a0 a1 a2 a3 a4) 16 0 ()).1)), (8, .int (23 + (6 * (nI (rj_br (bX12_act_97 μ a0 a1 a2 a3 a4) 16 0 ()).1)))), (9, .int (nI (j220 + 1)))]) [1, 2, 3, 4, 5, 6, 7, 8, 9, 0] rfl (ih (j220 + 1) (rj_pi s220 396 ((119 + (16 * (nI j220))) + (nI (rj_br (bX12_act_97 μ a0 a1 a2 a3 a4) 16 0 ()).1)).toNatClampNeg 0) (by omega) (fun _ => ra_fo_n (hq0 True.intro) e) (by rw [rj_fo_s, e] at K; exact K))
def fX12_act (μ : rj_M) (a0 : Int32) (a1 : Int32) (a2 : Int32) (a3 : Int32) (a4 : Int32) : Int32 := (if (fX12_lacks μ (fX12_isStage μ a0)) = 0 then (if (fX12_in (mX12_lacks μ (fX12_isStage μ a0)) a1 0 5759) = 0 then 0 else (if (fX12_in (mX12_lacks μ (fX12_isStage μ a0)) a2 10 240) = 0 then 0 else (if (fX12_in (mX12_lacks μ (fX12_isStage μ a0)) a3 0 60) = 0 then 0 else (if (fX12_in (mX12_lacks μ (fX12_isStage μ a0)) a4 1 4095) = 0 then 0 else (if (a1 - a3) < 0 then 0 else (if 5760 < (a1 + a2) then 0 else (if 16 ≤ nI (rj_br (bX12_act_97 μ a0 a1 a2 a3 a4) 16 0 ()).1 then 0 else nI (rj_br (bX12_act_97 μ a0 a1 a2 a3 a4) 16 0 ()).1))))))) else 0)
def mX12_act (μ : rj_M) (a0 : Int32) (a1 : Int32) (a2 : Int32) (a3 : Int32) (a4 : Int32) : rj_M := (if (fX12_lacks μ (fX12_isStage μ a0)) = 0 then (if (fX12_in (mX12_lacks μ (fX12_isStage μ a0)) a1 0 5759) = 0 then (mX12_noF (mX12_lacks μ (fX12_isStage μ a0)) 2) else (if (fX12_in (mX12_lacks μ (fX12_isStage μ a0)) a2 10 240) = 0 then (mX12_noF (mX12_lacks μ (fX12_isStage μ a0)) 2) else (if (fX12_in (mX12_lacks μ (fX12_isStage μ a0)) a3 0 60) = 0 then (mX12_noF (mX12_lacks μ (fX12_isStage μ a0)) 2) else (if (fX12_in (mX12_lacks μ (fX12_isStage μ a0)) a4 1 4095) = 0 then (mX12_noF (mX12_lacks μ (fX12_isStage μ a0)) 2) else (if (a1 - a3) < 0 then (mX12_noF (mX12_lacks μ (fX12_isStage μ a0)) 2) else (if 5760 < (a1 + a2) then (mX12_noF (mX12_lacks μ (fX12_isStage μ a0)) 2) else (if 16 ≤ nI (rj_br (bX12_act_97 μ a0 a1 a2 a3 a4) 16 0 ()).1 then (mX12_noF (mX12_lacks μ (fX12_isStage μ a0)) 3) else (rj_fo (bX12_act_220 μ a0 a1 a2 a3 a4) 12 0 (rj_pi (rj_pi (rj_pi (rj_pi (rj_pi (rj_pi (mX12_keeps (mX12_lacks μ (fX12_isStage μ a0))) 396 (23 + (6 * (nI (rj_br (bX12_act_97 μ a0 a1 a2 a3 a4) 16 0 ()).1))).toNatClampNeg 1) 396 ((23 + (6 * (nI (rj_br (bX12_act_97 μ a0 a1 a2 a3 a4) 16 0 ()).1))) + 1).toNatClampNeg a0) 396 ((23 + (6 * (nI (rj_br (bX12_act_97 μ a0 a1 a2 a3 a4) 16 0 ()).1))) + 2).toNatClampNeg a1) 396 ((23 + (6 * (nI (rj_br (bX12_act_97 μ a0 a1 a2 a3 a4) 16 0 ()).1))) + 3).toNatClampNeg a2) 396 ((23 + (6 * (nI (rj_br (bX12_act_97 μ a0 a1 a2 a3 a4) 16 0 ()).1))) + 4).toNatClampNeg a3) 396 ((23 + (6 * (nI (rj_br (bX12_act_97 μ a0 a1 a2 a3 a4) 16 0 ()).1))) + 5).toNatClampNeg a4))))))))) else (mX12_lacks μ (fX12_isStage μ a0)))
def qX12_act (μ : rj_M) (a0 : Int32) (a1 : Int32) (a2 : Int32) (a3 : Int32) (a4 : Int32) : Prop := ((((fX12_lacks μ (fX12_isStage μ a0)) = 0) → ((((fX12_in (mX12_lacks μ (fX12_isStage μ a0)) a1 0 5759) = 0) → True) ∧ ((¬ ((fX12_in (mX12_lacks μ (fX12_isStage μ a0)) a1 0 5759) = 0)) → ((((fX12_in (mX12_lacks μ (fX12_isStage μ a0)) a2 10 240) = 0) → True) ∧ ((¬ ((fX12_in (mX12_lacks μ (fX12_isStage μ a0)) a2 10 240) = 0)) → ((((fX12_in (mX12_lacks μ (fX12_isStage μ a0)) a3 0 60) = 0) → True) ∧ ((¬ ((fX12_in (mX12_lacks μ (fX12_isStage μ a0)) a3 0 60) = 0)) → ((((fX12_in (mX12_lacks μ (fX12_isStage μ a0)) a4 1 4095) = 0) → True) ∧ ((¬ ((fX12_in (mX12_lacks μ (fX12_isStage μ a0)) a4 1 4095) = 0)) → ((((a1 - a3) < 0) → True) ∧ ((¬ ((a1 - a3) < 0)) → (((5760 < (a1 + a2)) → True) ∧ ((¬ (5760 < (a1 + a2))) → (((16 ≤ nI (rj_br (bX12_act_97 μ a0 a1 a2 a3 a4) 16 0 ()).1) → True) ∧ ((¬ (16 ≤ nI (rj_br (bX12_act_97 μ a0 a1 a2 a3 a4) 16 0 ()).1)) → (qX12_keeps (mX12_lacks μ (fX12_isStage μ a0)) ∧ vp_in (23 + (6 * (nI (rj_br (bX12_act_97 μ a0 a1 a2 a3 a4) 16 0 ()).1))) 625 ∧ vp_in ((23 + (6 * (nI (rj_br (bX12_act_97 μ a0 a1 a2 a3 a4) 16 0 ()).1))) + 1) 625 ∧ vp_in ((23 + (6 * (nI (rj_br (bX12_act_97 μ a0 a1 a2 a3 a4) 16 0 ()).1))) + 2) 625 ∧ vp_in ((23 + (6 * (nI (rj_br (bX12_act_97 μ a0 a1 a2 a3 a4) 16 0 ()).1))) + 3) 625 ∧ vp_in ((23 + (6 * (nI (rj_br (bX12_act_97 μ a0 a1 a2 a3 a4) 16 0 ()).1))) + 4) 625 ∧ vp_in ((23 + (6 * (nI (rj_br (bX12_act_97 μ a0 a1 a2 a3 a4) 16 0 ()).1))) + 5) 625 ∧ ((True → ra_fo (qX12_act_220 μ a0 a1 a2 a3 a4) (bX12_act_220 μ a0 a1 a2 a3 a4) 12 0 (rj_pi (rj_pi (rj_pi (rj_pi (rj_pi (rj_pi (mX12_keeps (mX12_lacks μ (fX12_isStage μ a0))) 396 (23 + (6 * (nI (rj_br (bX12_act_97 μ a0 a1 a2 a3 a4) 16 0 ()).1))).toNatClampNeg 1) 396 ((23 + (6 * (nI (rj_br (bX12_act_97 μ a0 a1 a2 a3 a4) 16 0 ()).1))) + 1).toNatClampNeg a0) 396 ((23 + (6 * (nI (rj_br (bX12_act_97 μ a0 a1 a2 a3 a4) 16 0 ()).1))) + 2).toNatClampNeg a1) 396 ((23 + (6 * (nI (rj_br (bX12_act_97 μ a0 a1 a2 a3 a4) 16 0 ()).1))) + 3).toNatClampNeg a2) 396 ((23 + (6 * (nI (rj_br (bX12_act_97 μ a0 a1 a2 a3 a4) 16 0 ()).1))) + 4).toNatClampNeg a3) 396 ((23 + (6 * (nI (rj_br (bX12_act_97 μ a0 a1 a2 a3 a4) 16 0 ()).1))) + 5).toNatClampNeg a4)) ∧ True))))))))))))))))) ∧ ((¬ ((fX12_lacks μ (fX12_isStage μ a0)) = 0)) → True))
set_option maxHeartbeats 40000000 in
set_option maxRecDepth 100000 in
theorem sX12_act {g : rj_G} {ω : rj_W} (hω : rj_ok ω) (μ : rj_M) (a0 : Int32) (a1 : Int32) (a2 : Int32) (a3 : Int32) (a4 : Int32)   (hq : qX12_act μ a0 a1 a2 a3 a4) : rj_Sp g yX12_act wsX12_act (rj_rm 2 0) [.ref (ω.2.2 395), .int a0, .int a1, .int a2, .int a3, .int a4] ω μ (rj_D (.inl (some (.int (fX12_act μ a0 a1 a2 a3 a4)))) ω (mX12_act μ a0 a1 a2 a3 a4)) := by
  have hqa := hq
  unfold qX12_act at hqa
  refine rj_of' (cc := cX12_act) (nL := 10) (ret := (some .int)) (own := RX12) (l0 := [(0, .ref (ω.2.2 395)), (1, .int a0), (2, .int a1), (3, .int a2), (4, .int a3), (5, .int a4)]) rfl (by decide +kernel) rfl (Nat.le_of_ble_eq_true rfl) rfl ?_
  refine rj_aload_n 0 dX12_act_0 rfl rfl ?_
  refine rj_iload_n 1 dX12_act_1 rfl rfl ?_
  refine rj_cS (rest := [.ref (ω.2.2 395)]) (sX12_isStage (g := g) (ω := ω) hω μ a0   ) gX12_act_X12_isStage rfl hSX12_isStage ⟨Nat.le_of_ble_eq_true rfl, Nat.le_of_ble_eq_true rfl⟩ dX12_act_2 rfl rfl rfl (Nat.le_of_ble_eq_true rfl) rfl (Nat.le_of_ble_eq_true rfl) rfl ?_
  refine rj_cV (rest := []) (sX12_lacks (g := g) (ω := ω) hω μ (fX12_isStage μ a0)   ) gX12_act_X12_lacks (rj_lt hω (k := 395) rfl) (rj_sh hω ly_395) rfl rfl hVX12_lacks ⟨Nat.le_of_ble_eq_true rfl, Nat.le_of_ble_eq_true rfl⟩ dX12_act_5 rfl rfl rfl (Nat.le_of_ble_eq_true rfl) rfl (Nat.le_of_ble_eq_true rfl) rfl ?_
  refine rj_if_eq dX12_act_8 rfl rfl (fun h1 => ?_) (fun h1 => ?_)
  · have hq1 := (And.left hqa) h1
    refine rj_iload_n 2 dX12_act_13 rfl rfl ?_
    refine rj_iconst (v := 0) dX12_act_14 rfl (by decide) ?_
    refine rj_sipush (v := 5759) dX12_act_15 rfl (by decide) ?_
    refine rj_cS (rest := []) (sX12_in (g := g) (ω := ω) hω (mX12_lacks μ (fX12_isStage μ a0)) a1 0 5759   ) gX12_act_X12_in rfl hSX12_in ⟨Nat.le_of_ble_eq_true rfl, Nat.le_of_ble_eq_true rfl⟩ dX12_act_18 rfl rfl rfl (Nat.le_of_ble_eq_true rfl) rfl (Nat.le_of_ble_eq_true rfl) rfl ?_
    refine rj_if_eq dX12_act_21 rfl rfl (fun h2 => ?_) (fun h2 => ?_)
    · skip
      refine rj_iconst (v := 0) dX12_act_79 rfl (by decide) ?_
      refine rj_istore (l' := [(6, .int 0), (0, .ref (ω.2.2 395)), (1, .int a0), (2, .int a1), (3, .int a2), (4, .int a3), (5, .int a4)]) dX12_act_80 rfl (rj_bl rfl) rfl ?_
      refine rj_aload_n 1 dX12_act_82 rfl rfl ?_
      refine rj_iload 0 dX12_act_83 rfl rfl ?_
      refine rj_iconst (v := 2) dX12_act_85 rfl (by decide) ?_
      refine rj_cV (rest := []) (sX12_noF (g := g) (ω := ω) hω (mX12_lacks μ (fX12_isStage μ a0)) 2   ) gX12_act_X12_no (rj_lt hω (k := 395) rfl) (rj_sh hω ly_395) rfl rfl hVX12_no ⟨Nat.le_of_ble_eq_true rfl, Nat.le_of_ble_eq_true rfl⟩ dX12_act_86 rfl rfl rfl (Nat.le_of_ble_eq_true rfl) rfl (Nat.le_of_ble_eq_true rfl) rfl ?_
      refine rj_if_eq dX12_act_89 rfl rfl (fun h3 => ?_) (fun h3 => ?_)
      · exact absurd h3 (by decide)
      · refine rj_iconst (v := 0) dX12_act_92 rfl (by decide) ?_
        exact rj_iret dX12_act_93 rfl (Nat.le_of_ble_eq_true rfl) (Nat.le_of_ble_eq_true rfl) ⟨(by unfold fX12_act; rw [if_pos h1]; rw [if_pos h2]; try rfl), rfl, (by unfold mX12_act; rw [if_pos h1]; rw [if_pos h2]; try rfl)⟩
    · have hq3 := (And.right hq1) h2
      refine rj_iload_n 3 dX12_act_24 rfl rfl ?_
      refine rj_bipush (v := 10) dX12_act_25 rfl (by decide) ?_
      refine rj_sipush (v := 240) dX12_act_27 rfl (by decide) ?_
      refine rj_cS (rest := []) (sX12_in (g := g) (ω := ω) hω (mX12_lacks μ (fX12_isStage μ a0)) a2 10 240   ) gX12_act_X12_in rfl hSX12_in ⟨Nat.le_of_ble_eq_true rfl, Nat.le_of_ble_eq_true rfl⟩ dX12_act_30 rfl rfl rfl (Nat.le_of_ble_eq_true rfl) rfl (Nat.le_of_ble_eq_true rfl) rfl ?_
      refine rj_if_eq dX12_act_33 rfl rfl (fun h4 => ?_) (fun h4 => ?_)
      · skip
        refine rj_iconst (v := 0) dX12_act_79 rfl (by decide) ?_
        refine rj_istore (l' := [(6, .int 0), (0, .ref (ω.2.2 395)), (1, .int a0), (2, .int a1), (3, .int a2), (4, .int a3), (5, .int a4)]) dX12_act_80 rfl (rj_bl rfl) rfl ?_
        refine rj_aload_n 1 dX12_act_82 rfl rfl ?_
        refine rj_iload 0 dX12_act_83 rfl rfl ?_
        refine rj_iconst (v := 2) dX12_act_85 rfl (by decide) ?_
        refine rj_cV (rest := []) (sX12_noF (g := g) (ω := ω) hω (mX12_lacks μ (fX12_isStage μ a0)) 2   ) gX12_act_X12_no (rj_lt hω (k := 395) rfl) (rj_sh hω ly_395) rfl rfl hVX12_no ⟨Nat.le_of_ble_eq_true rfl, Nat.le_of_ble_eq_true rfl⟩ dX12_act_86 rfl rfl rfl (Nat.le_of_ble_eq_true rfl) rfl (Nat.le_of_ble_eq_true rfl) rfl ?_
        refine rj_if_eq dX12_act_89 rfl rfl (fun h5 => ?_) (fun h5 => ?_)
        · exact absurd h5 (by decide)
        · refine rj_iconst (v := 0) dX12_act_92 rfl (by decide) ?_
          exact rj_iret dX12_act_93 rfl (Nat.le_of_ble_eq_true rfl) (Nat.le_of_ble_eq_true rfl) ⟨(by unfold fX12_act; rw [if_pos h1]; rw [if_neg h2]; rw [if_pos h4]; try rfl), rfl, (by unfold mX12_act; rw [if_pos h1]; rw [if_neg h2]; rw [if_pos h4]; try rfl)⟩
      · have hq5 := (And.right hq3) h4
        refine rj_iload 4 dX12_act_36 rfl rfl ?_
        refine rj_iconst (v := 0) dX12_act_38 rfl (by decide) ?_
        refine rj_bipush (v := 60) dX12_act_39 rfl (by decide) ?_
        refine rj_cS (rest := []) (sX12_in (g := g) (ω := ω) hω (mX12_lacks μ (fX12_isStage μ a0)) a3 0 60   ) gX12_act_X12_in rfl hSX12_in ⟨Nat.le_of_ble_eq_true rfl, Nat.le_of_ble_eq_true rfl⟩ dX12_act_41 rfl rfl rfl (Nat.le_of_ble_eq_true rfl) rfl (Nat.le_of_ble_eq_true rfl) rfl ?_
        refine rj_if_eq dX12_act_44 rfl rfl (fun h6 => ?_) (fun h6 => ?_)
        · skip
          refine rj_iconst (v := 0) dX12_act_79 rfl (by decide) ?_
          refine rj_istore (l' := [(6, .int 0), (0, .ref (ω.2.2 395)), (1, .int a0), (2, .int a1), (3, .int a2), (4, .int a3), (5, .int a4)]) dX12_act_80 rfl (rj_bl rfl) rfl ?_
          refine rj_aload_n 1 dX12_act_82 rfl rfl ?_
          refine rj_iload 0 dX12_act_83 rfl rfl ?_
          refine rj_iconst (v := 2) dX12_act_85 rfl (by decide) ?_
          refine rj_cV (rest := []) (sX12_noF (g := g) (ω := ω) hω (mX12_lacks μ (fX12_isStage μ a0)) 2   ) gX12_act_X12_no (rj_lt hω (k := 395) rfl) (rj_sh hω ly_395) rfl rfl hVX12_no ⟨Nat.le_of_ble_eq_true rfl, Nat.le_of_ble_eq_true rfl⟩ dX12_act_86 rfl rfl rfl (Nat.le_of_ble_eq_true rfl) rfl (Nat.le_of_ble_eq_true rfl) rfl ?_
          refine rj_if_eq dX12_act_89 rfl rfl (fun h7 => ?_) (fun h7 => ?_)
          · exact absurd h7 (by decide)
          · refine rj_iconst (v := 0) dX12_act_92 rfl (by decide) ?_
            exact rj_iret dX12_act_93 rfl (Nat.le_of_ble_eq_true rfl) (Nat.le_of_ble_eq_true rfl) ⟨(by unfold fX12_act; rw [if_pos h1]; rw [if_neg h2]; rw [if_neg h4]; rw [if_pos h6]; try rfl), rfl, (by unfold mX12_act; rw [if_pos h1]; rw [if_neg h2]; rw [if_neg h4]; rw [if_pos h6]; try rfl)⟩
        · have hq7 := (And.right hq5) h6
          refine rj_iload 5 dX12_act_47 rfl rfl ?_
          refine rj_iconst (v := 1) dX12_act_49 rfl (by decide) ?_
          refine rj_sipush (v := 4095) dX12_act_50 rfl (by decide) ?_
          refine rj_cS (rest := []) (sX12_in (g := g) (ω := ω) hω (mX12_lacks μ (fX12_isStage μ a0)) a4 1 4095   ) gX12_act_X12_in rfl hSX12_in ⟨Nat.le_of_ble_eq_true rfl, Nat.le_of_ble_eq_true rfl⟩ dX12_act_53 rfl rfl rfl (Nat.le_of_ble_eq_true rfl) rfl (Nat.le_of_ble_eq_true rfl) rfl ?_
          refine rj_if_eq dX12_act_56 rfl rfl (fun h8 => ?_) (fun h8 => ?_)
          · skip
            refine rj_iconst (v := 0) dX12_act_79 rfl (by decide) ?_
            refine rj_istore (l' := [(6, .int 0), (0, .ref (ω.2.2 395)), (1, .int a0), (2, .int a1), (3, .int a2), (4, .int a3), (5, .int a4)]) dX12_act_80 rfl (rj_bl rfl) rfl ?_
            refine rj_aload_n 1 dX12_act_82 rfl rfl ?_
            refine rj_iload 0 dX12_act_83 rfl rfl ?_
            refine rj_iconst (v := 2) dX12_act_85 rfl (by decide) ?_
            refine rj_cV (rest := []) (sX12_noF (g := g) (ω := ω) hω (mX12_lacks μ (fX12_isStage μ a0)) 2   ) gX12_act_X12_no (rj_lt hω (k := 395) rfl) (rj_sh hω ly_395) rfl rfl hVX12_no ⟨Nat.le_of_ble_eq_true rfl, Nat.le_of_ble_eq_true rfl⟩ dX12_act_86 rfl rfl rfl (Nat.le_of_ble_eq_true rfl) rfl (Nat.le_of_ble_eq_true rfl) rfl ?_
            refine rj_if_eq dX12_act_89 rfl rfl (fun h9 => ?_) (fun h9 => ?_)
            · exact absurd h9 (by decide)
            · refine rj_iconst (v := 0) dX12_act_92 rfl (by decide) ?_
              exact rj_iret dX12_act_93 rfl (Nat.le_of_ble_eq_true rfl) (Nat.le_of_ble_eq_true rfl) ⟨(by unfold fX12_act; rw [if_pos h1]; rw [if_neg h2]; rw [if_neg h4]; rw [if_neg h6]; rw [if_pos h8]; try rfl), rfl, (by unfold mX12_act; rw [if_pos h1]; rw [if_neg h2]; rw [if_neg h4]; rw [if_neg h6]; rw [if_pos h8]; try rfl)⟩
          · have hq9 := (And.right hq7) h8
            refine rj_iload_n 2 dX12_act_59 rfl rfl ?_
            refine rj_iload 4 dX12_act_60 rfl rfl ?_
            refine rj_isub dX12_act_62 rfl ?_
            refine rj_if_lt dX12_act_63 rfl rfl (fun h10 => ?_) (fun h10 => ?_)
            · skip
              refine rj_iconst (v := 0) dX12_act_79 rfl (by decide) ?_
              refine rj_istore (l' := [(6, .int 0), (0, .ref (ω.2.2 395)), (1, .int a0), (2, .int a1), (3, .int a2), (4, .int a3), (5, .int a4)]) dX12_act_80 rfl (rj_bl rfl) rfl ?_
              refine rj_aload_n 1 dX12_act_82 rfl rfl ?_
              refine rj_iload 0 dX12_act_83 rfl rfl ?_
              refine rj_iconst (v := 2) dX12_act_85 rfl (by decide) ?_
              refine rj_cV (rest := []) (sX12_noF (g := g) (ω := ω) hω (mX12_lacks μ (fX12_isStage μ a0)) 2   ) gX12_act_X12_no (rj_lt hω (k := 395) rfl) (rj_sh hω ly_395) rfl rfl hVX12_no ⟨Nat.le_of_ble_eq_true rfl, Nat.le_of_ble_eq_true rfl⟩ dX12_act_86 rfl rfl rfl (Nat.le_of_ble_eq_true rfl) rfl (Nat.le_of_ble_eq_true rfl) rfl ?_
              refine rj_if_eq dX12_act_89 rfl rfl (fun h11 => ?_) (fun h11 => ?_)
              · exact absurd h11 (by decide)
              · refine rj_iconst (v := 0) dX12_act_92 rfl (by decide) ?_
                exact rj_iret dX12_act_93 rfl (Nat.le_of_ble_eq_true rfl) (Nat.le_of_ble_eq_true rfl) ⟨(by unfold fX12_act; rw [if_pos h1]; rw [if_neg h2]; rw [if_neg h4]; rw [if_neg h6]; rw [if_neg h8]; rw [if_pos h10]; try rfl), rfl, (by unfold mX12_act; rw [if_pos h1]; rw [if_neg h2]; rw [if_neg h4]; rw [if_neg h6]; rw [if_neg h8]; rw [if_pos h10]; try rfl)⟩
            · have hq11 := (And.right hq9) h10
              refine rj_iload_n 2 dX12_act_66 rfl rfl ?_
              refine rj_iload_n 3 dX12_act_67 rfl rfl ?_
              refine rj_iadd dX12_act_68 rfl ?_
              refine rj_sipush (v := 5760) dX12_act_69 rfl (by decide) ?_
              refine rj_icmp_gt dX12_act_72 rfl rfl (fun h12 => ?_) (fun h12 => ?_)
              · skip
                refine rj_iconst (v := 0) dX12_act_79 rfl (by decide) ?_
                refine rj_istore (l' := [(6, .int 0), (0, .ref (ω.2.2 395)), (1, .int a0), (2, .int a1), (3, .int a2), (4, .int a3), (5, .int a4)]) dX12_act_80 rfl (rj_bl rfl) rfl ?_
                refine rj_aload_n 1 dX12_act_82 rfl rfl ?_
                refine rj_iload 0 dX12_act_83 rfl rfl ?_
                refine rj_iconst (v := 2) dX12_act_85 rfl (by decide) ?_
                refine rj_cV (rest := []) (sX12_noF (g := g) (ω := ω) hω (mX12_lacks μ (fX12_isStage μ a0)) 2   ) gX12_act_X12_no (rj_lt hω (k := 395) rfl) (rj_sh hω ly_395) rfl rfl hVX12_no ⟨Nat.le_of_ble_eq_true rfl, Nat.le_of_ble_eq_true rfl⟩ dX12_act_86 rfl rfl rfl (Nat.le_of_ble_eq_true rfl) rfl (Nat.le_of_ble_eq_true rfl) rfl ?_
                refine rj_if_eq dX12_act_89 rfl rfl (fun h13 => ?_) (fun h13 => ?_)
                · exact absurd h13 (by decide)
                · refine rj_iconst (v := 0) dX12_act_92 rfl (by decide) ?_
                  exact rj_iret dX12_act_93 rfl (Nat.le_of_ble_eq_true rfl) (Nat.le_of_ble_eq_true rfl) ⟨(by unfold fX12_act; rw [if_pos h1]; rw [if_neg h2]; rw [if_neg h4]; rw [if_neg h6]; rw [if_neg h8]; rw [if_neg h10]; rw [if_pos h12]; try rfl), rfl, (by unfold mX12_act; rw [if_pos h1]; rw [if_neg h2]; rw [if_neg h4]; rw [if_neg h6]; rw [if_neg h8]; rw [if_neg h10]; rw [if_pos h12]; try rfl)⟩
              · have hq13 := (And.right hq11) h12
                refine rj_iconst (v := 1) dX12_act_75 rfl (by decide) ?_
                refine rj_goto dX12_act_76 rfl ?_
                refine rj_istore (l' := [(6, .int 1), (0, .ref (ω.2.2 395)), (1, .int a0), (2, .int a1), (3, .int a2), (4, .int a3), (5, .int a4)]) dX12_act_80 rfl (rj_bl rfl) rfl ?_
                refine rj_aload_n 1 dX12_act_82 rfl rfl ?_
                refine rj_iload 0 dX12_act_83 rfl rfl ?_
                refine rj_iconst (v := 2) dX12_act_85 rfl (by decide) ?_
                refine rj_cV (rest := []) (sX12_noT (g := g) (ω := ω) hω (mX12_lacks μ (fX12_isStage μ a0)) 2   ) gX12_act_X12_no (rj_lt hω (k := 395) rfl) (rj_sh hω ly_395) rfl rfl hVX12_no ⟨Nat.le_of_ble_eq_true rfl, Nat.le_of_ble_eq_true rfl⟩ dX12_act_86 rfl rfl rfl (Nat.le_of_ble_eq_true rfl) rfl (Nat.le_of_ble_eq_true rfl) rfl ?_
                refine rj_if_eq dX12_act_89 rfl rfl (fun h14 => ?_) (fun h14 => ?_)
                · refine rj_iconst (v := 0) dX12_act_94 rfl (by decide) ?_
                  refine rj_istore (l' := [(7, .int 0), (6, .int 1), (0, .ref (ω.2.2 395)), (1, .int a0), (2, .int a1), (3, .int a2), (4, .int a3), (5, .int a4)]) dX12_act_95 rfl (rj_bl rfl) rfl ?_
                  refine rj_sub (l' := [(0, .ref (ω.2.2 395)), (1, .int a0), (2, .int a1), (3, .int a2), (4, .int a3), (5, .int a4), (6, .int 1), (7, .int (nI 0))]) [2, 3, 4, 5, 6, 7, 1, 0] rfl ?_
                  refine lX12_act_97 hω μ a0 a1 a2 a3 a4     h1 h2 h4 h6 h8 h10 h12 16 0 () rfl ?_
                  refine rj_aload_n 0 dX12_act_121 rfl rfl ?_
                  refine rj_iload 7 dX12_act_122 rfl rfl ?_
                  refine rj_bipush (v := 16) dX12_act_124 rfl (by decide) ?_
                  refine rj_icmp_ge dX12_act_126 rfl rfl (fun h18 => ?_) (fun h18 => ?_)
                  · skip
                    refine rj_iconst (v := 0) dX12_act_133 rfl (by decide) ?_
                    refine rj_iconst (v := 3) dX12_act_134 rfl (by decide) ?_
                    refine rj_cV (rest := []) (sX12_noF (g := g) (ω := ω) hω (mX12_lacks μ (fX12_isStage μ a0)) 3   ) gX12_act_X12_no (rj_lt hω (k := 395) rfl) (rj_sh hω ly_395) rfl rfl hVX12_no ⟨Nat.le_of_ble_eq_true rfl, Nat.le_of_ble_eq_true rfl⟩ dX12_act_135 rfl rfl rfl (Nat.le_of_ble_eq_true rfl) rfl (Nat.le_of_ble_eq_true rfl) rfl ?_
                    refine rj_if_eq dX12_act_138 rfl rfl (fun h19 => ?_) (fun h19 => ?_)
                    · exact absurd h19 (by decide)
                    · refine rj_iconst (v := 0) dX12_act_141 rfl (by decide) ?_
                      exact rj_iret dX12_act_142 rfl (Nat.le_of_ble_eq_true rfl) (Nat.le_of_ble_eq_true rfl) ⟨(by unfold fX12_act; rw [if_pos h1]; rw [if_neg h2]; rw [if_neg h4]; rw [if_neg h6]; rw [if_neg h8]; rw [if_neg h10]; rw [if_neg h12]; rw [if_pos h18]; try rfl), rfl, (by unfold mX12_act; rw [if_pos h1]; rw [if_neg h2]; rw [if_neg h4]; rw [if_neg h6]; rw [if_neg h8]; rw [if_neg h10]; rw [if_neg h12]; rw [if_pos h18]; try rfl)⟩
                  · have hq17 := (And.right hq13) h18
                    refine rj_iconst (v := 1) dX12_act_129 rfl (by decide) ?_
                    refine rj_goto dX12_act_130 rfl ?_
                    refine rj_iconst (v := 3) dX12_act_134 rfl (by decide) ?_
                    refine rj_cV (rest := []) (sX12_noT (g := g) (ω := ω) hω (mX12_lacks μ (fX12_isStage μ a0)) 3   ) gX12_act_X12_no (rj_lt hω (k := 395) rfl) (rj_sh hω ly_395) rfl rfl hVX12_no ⟨Nat.le_of_ble_eq_true rfl, Nat.le_of_ble_eq_true rfl⟩ dX12_act_135 rfl rfl rfl (Nat.le_of_ble_eq_true rfl) rfl (Nat.le_of_ble_eq_true rfl) rfl ?_
                    refine rj_if_eq dX12_act_138 rfl rfl (fun h20 => ?_) (fun h20 => ?_)
                    · refine rj_aload_n 0 dX12_act_143 rfl rfl ?_
                      refine rj_cV (rest := []) (sX12_keeps (g := g) (ω := ω) hω (mX12_lacks μ (fX12_isStage μ a0))   (And.left hq17)) gX12_act_X12_keeps (rj_lt hω (k := 395) rfl) (rj_sh hω ly_395) rfl rfl hVX12_keeps ⟨Nat.le_of_ble_eq_true rfl, Nat.le_of_ble_eq_true rfl⟩ dX12_act_144 rfl rfl rfl (Nat.le_of_ble_eq_true rfl) rfl (Nat.le_of_ble_eq_true rfl) rfl ?_
                      refine rj_bipush (v := 23) dX12_act_147 rfl (by decide) ?_
                      refine rj_bipush (v := 6) dX12_act_149 rfl (by decide) ?_
                      refine rj_iload 7 dX12_act_151 rfl rfl ?_
                      refine rj_imul dX12_act_153 rfl ?_
                      refine rj_iadd dX12_act_154 rfl ?_
                      refine rj_istore (l' := [(8, .int (23 + (6 * (nI (rj_br (bX12_act_97 μ a0 a1 a2 a3 a4) 16 0 ()).1)))), (0, .ref (ω.2.2 395)), (1, .int a0), (2, .int a1), (3, .int a2), (4, .int a3), (5, .int a4), (6, .int 1), (7, .int (nI (rj_br (bX12_act_97 μ a0 a1 a2 a3 a4) 16 0 ()).1))]) dX12_act_155 rfl (rj_bl rfl) rfl ?_
                      refine rj_aload_n 1 dX12_act_157 rfl rfl ?_
                      refine rj_getR (C0 := RX12) (T := TX12) (N := 16) (j := 1) (r := 396) dX12_act_158 rfl vX12_act_12 rfl (rj_lt hω (k := 395) rfl) (rj_sh hω ly_395) (by decide) kX12_act_9 rfl ?_
                      refine rj_iload 0 dX12_act_161 rfl rfl ?_
                      refine rj_iconst (v := 1) dX12_act_163 rfl (by decide) ?_
                      refine rj_iast dX12_act_164 rfl (rj_lt hω (k := 396) rfl) (rj_sh hω ly_396) (And.left (And.right hq17)) ?_
                      refine rj_aload_n 1 dX12_act_165 rfl rfl ?_
                      refine rj_getR (C0 := RX12) (T := TX12) (N := 16) (j := 1) (r := 396) dX12_act_166 rfl vX12_act_12 rfl (rj_lt hω (k := 395) rfl) (rj_sh hω ly_395) (by decide) kX12_act_9 rfl ?_
                      refine rj_iload 0 dX12_act_169 rfl rfl ?_
                      refine rj_iconst (v := 1) dX12_act_171 rfl (by decide) ?_
                      refine rj_iadd dX12_act_172 rfl ?_
                      refine rj_iload_n 2 dX12_act_173 rfl rfl ?_
                      refine rj_iast dX12_act_174 rfl (rj_lt hω (k := 396) rfl) (rj_sh hω ly_396) (And.left (And.right (And.right hq17))) ?_
                      refine rj_aload_n 1 dX12_act_175 rfl rfl ?_
                      refine rj_getR (C0 := RX12) (T := TX12) (N := 16) (j := 1) (r := 396) dX12_act_176 rfl vX12_act_12 rfl (rj_lt hω (k := 395) rfl) (rj_sh hω ly_395) (by decide) kX12_act_9 rfl ?_
                      refine rj_iload 0 dX12_act_179 rfl rfl ?_
                      refine rj_iconst (v := 2) dX12_act_181 rfl (by decide) ?_
                      refine rj_iadd dX12_act_182 rfl ?_
                      refine rj_iload_n 3 dX12_act_183 rfl rfl ?_
                      refine rj_iast dX12_act_184 rfl (rj_lt hω (k := 396) rfl) (rj_sh hω ly_396) (And.left (And.right (And.right (And.right hq17)))) ?_
                      refine rj_aload_n 1 dX12_act_185 rfl rfl ?_
                      refine rj_getR (C0 := RX12) (T := TX12) (N := 16) (j := 1) (r := 396) dX12_act_186 rfl vX12_act_12 rfl (rj_lt hω (k := 395) rfl) (rj_sh hω ly_395) (by decide) kX12_act_9 rfl ?_
                      refine rj_iload 0 dX12_act_189 rfl rfl ?_
                      refine rj_iconst (v := 3) dX12_act_191 rfl (by decide) ?_
                      refine rj_iadd dX12_act_192 rfl ?_
                      refine rj_iload_n 4 dX12_act_193 rfl rfl ?_
                      refine rj_iast dX12_act_194 rfl (rj_lt hω (k := 396) rfl) (rj_sh hω ly_396) (And.left (And.right (And.right (And.right (And.right hq17))))) ?_
                      refine rj_aload_n 1 dX12_act_195 rfl rfl ?_
                      refine rj_getR (C0 := RX12) (T := TX12) (N := 16) (j := 1) (r := 396) dX12_act_196 rfl vX12_act_12 rfl (rj_lt hω (k := 395) rfl) (rj_sh hω ly_395) (by decide) kX12_act_9 rfl ?_
                      refine rj_iload 0 dX12_act_199 rfl rfl ?_
                      refine rj_iconst (v := 4) dX12_act_201 rfl (by decide) ?_
                      refine rj_iadd dX12_act_202 rfl ?_
                      refine rj_iload 5 dX12_act_203 rfl rfl ?_
                      refine rj_iast dX12_act_205 rfl (rj_lt hω (k := 396) rfl) (rj_sh hω ly_396) (And.left (And.right (And.right (And.right (And.right (And.right hq17)))))) ?_
                      refine rj_aload_n 1 dX12_act_206 rfl rfl ?_
                      refine rj_getR (C0 := RX12) (T := TX12) (N := 16) (j := 1) (r := 396) dX12_act_207 rfl vX12_act_12 rfl (rj_lt hω (k := 395) rfl) (rj_sh hω ly_395) (by decide) kX12_act_9 rfl ?_
                      refine rj_iload 0 dX12_act_210 rfl rfl ?_
                      refine rj_iconst (v := 5) dX12_act_212 rfl (by decide) ?_
                      refine rj_iadd dX12_act_213 rfl ?_
                      refine rj_iload 6 dX12_act_214 rfl rfl ?_
                      refine rj_iast dX12_act_216 rfl (rj_lt hω (k := 396) rfl) (rj_sh hω ly_396) (And.left (And.right (And.right (And.right (And.right (And.right (And.right hq17))))))) ?_
                      refine rj_iconst (v := 0) dX12_act_217 rfl (by decide) ?_
                      refine rj_istore (l' := [(9, .int 0), (8, .int (23 + (6 * (nI (rj_br (bX12_act_97 μ a0 a1 a2 a3 a4) 16 0 ()).1)))), (0, .ref (ω.2.2 395)), (1, .int a0), (2, .int a1), (3, .int a2), (4, .int a3), (5, .int a4), (6, .int 1), (7, .int (nI (rj_br (bX12_act_97 μ a0 a1 a2 a3 a4) 16 0 ()).1))]) dX12_act_218 rfl (rj_bl rfl) rfl ?_
                      refine rj_sub (l' := [(0, .ref (ω.2.2 395)), (1, .int a0), (2, .int a1), (3, .int a2), (4, .int a3), (5, .int a4), (6, .int 1), (7, .int (nI (rj_br (bX12_act_97 μ a0 a1 a2 a3 a4) 16 0 ()).1)), (8, .int (23 + (6 * (nI (rj_br (bX12_act_97 μ a0 a1 a2 a3 a4) 16 0 ()).1)))), (9, .int (nI 0))]) [2, 3, 4, 5, 6, 7, 8, 9, 1, 0] rfl ?_
                      refine lX12_act_220 hω μ a0 a1 a2 a3 a4     h1 h2 h4 h6 h8 h10 h12 h18 12 0 (rj_pi (rj_pi (rj_pi (rj_pi (rj_pi (rj_pi (mX12_keeps (mX12_lacks μ (fX12_isStage μ a0))) 396 (23 + (6 * (nI (rj_br (bX12_act_97 μ a0 a1 a2 a3 a4) 16 0 ()).1))).toNatClampNeg 1) 396 ((23 + (6 * (nI (rj_br (bX12_act_97 μ a0 a1 a2 a3 a4) 16 0 ()).1))) + 1).toNatClampNeg a0) 396 ((23 + (6 * (nI (rj_br (bX12_act_97 μ a0 a1 a2 a3 a4) 16 0 ()).1))) + 2).toNatClampNeg a1) 396 ((23 + (6 * (nI (rj_br (bX12_act_97 μ a0 a1 a2 a3 a4) 16 0 ()).1))) + 3).toNatClampNeg a2) 396 ((23 + (6 * (nI (rj_br (bX12_act_97 μ a0 a1 a2 a3 a4) 16 0 ()).1))) + 4).toNatClampNeg a3) 396 ((23 + (6 * (nI (rj_br (bX12_act_97 μ a0 a1 a2 a3 a4) 16 0 ()).1))) + 5).toNatClampNeg a4) rfl (And.left (And.right (And.right (And.right (And.right (And.right (And.right (And.right hq17)))))))) ?_
                      refine rj_iload 7 dX12_act_250 rfl rfl ?_
                      exact rj_iret dX12_act_252 rfl (Nat.le_of_ble_eq_true rfl) (Nat.le_of_ble_eq_true rfl) ⟨(by unfold fX12_act; rw [if_pos h1]; rw [if_neg h2]; rw [if_neg h4]; rw [if_neg h6]; rw [if_neg h8]; rw [if_neg h10]; rw [if_neg h12]; rw [if_neg h18]; try rfl), rfl, (by unfold mX12_act; rw [if_pos h1]; rw [if_neg h2]; rw [if_neg h4]; rw [if_neg h6]; rw [if_neg h8]; rw [if_neg h10]; rw [if_neg h12]; rw [if_neg h18]; try rfl)⟩
                    · exact absurd (by decide) h20
                · exact absurd (by decide) h14
  · skip
    refine rj_iconst (v := 0) dX12_act_11 rfl (by decide) ?_
    exact rj_iret dX12_act_12 rfl (Nat.le_of_ble_eq_true rfl) (Nat.le_of_ble_eq_true rfl) ⟨(by unfold fX12_act; rw [if_neg h1]; try rfl), rfl, (by unfold mX12_act; rw [if_neg h1]; try rfl)⟩
