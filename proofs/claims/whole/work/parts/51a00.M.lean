noncomputable def rz17 : Nat := Classical.choose (Exists.intro 17 rfl : ∃ n : Nat, n = 17)
theorem rz17_eq : rz17 = 17 := Classical.choose_spec (Exists.intro 17 rfl : ∃ n : Nat, n = 17)
theorem hSX12_triesLineups : yX12_triesLineups.cls ≠ "java/lang/invoke/MethodHandle" ∧ yX12_triesLineups.cls ≠ "java/lang/invoke/VarHandle" ∧ (parseMethodDescriptor yX12_triesLineups.desc).map (fun d => d.parameters.length) = some 3 := by decide +kernel
theorem hVX12_triesLineups : yX12_triesLineups.cls = RX12 ∧ yX12_triesLineups.cls ≠ "java/lang/invoke/MethodHandle" ∧ yX12_triesLineups.cls ≠ "java/lang/invoke/VarHandle" ∧ (parseMethodDescriptor yX12_triesLineups.desc).map (fun d => d.parameters.length) = some 3 := by decide +kernel
theorem vX12_triesLineups_12 : ∀ w ∈ u_ws RX12 TX12 16, w ∈ wsX12_triesLineups := by decide +kernel
theorem kX12_triesLineups_124 : Cond.fieldLink RX12 124 (TX12 5).1 (TX12 5).2.1 (TX12 5).2.2.1 ∈ wsX12_triesLineups := by decide +kernel
theorem kX12_triesLineups_127 : Cond.fieldLink RX12 127 (TX12 4).1 (TX12 4).2.1 (TX12 4).2.2.1 ∈ wsX12_triesLineups := by decide +kernel
noncomputable def bX12_triesLineups_36 (n : Nat) (μ : rj_M) (a0 : Int32) (a1 : Int32) (a2 : Int32) (j36 : Nat) (s36 : Int32) : Int32 ⊕ (Nat × Int32) := (if s36 = 0 then .inr (j36, s36) else (if ((a1 >>> ((nI j36) &&& 31)) &&& 1) = 0 then .inl 1 else (if (fX12_areClashing μ (nI j36) a0) = 0 then .inl 1 else .inl 0)))
noncomputable def mX12_triesLineups : Nat → rj_M → Int32 → Int32 → Int32 → rj_M
  | 0, μ, _, _, _ => μ
  | n + 1, μ, a0, a1, a2 => (if a0 = 16 then (if (μ.1 395 5) < a2 then (rj_pi (rj_pi μ 395 5 a2) 395 4 a1) else μ) else (if (rj_br (bX12_triesLineups_36 n μ a0 a1 a2) (a0.toInt.toNat - 0) 0 (fX12_isAct μ a0)).2 = 0 then (mX12_triesLineups n μ (a0 + 1) a1 a2) else (mX12_triesLineups n (mX12_triesLineups n μ (a0 + 1) (a1 ||| (1 <<< (a0 &&& 31))) (a2 + (fX12_pleases μ a0))) (a0 + 1) a1 a2)))
theorem mX12_triesLineups_s (n : Nat) (μ : rj_M) (a0 : Int32) (a1 : Int32) (a2 : Int32) : mX12_triesLineups (n + 1) μ a0 a1 a2 = (if a0 = 16 then (if (μ.1 395 5) < a2 then (rj_pi (rj_pi μ 395 5 a2) 395 4 a1) else μ) else (if (rj_br (bX12_triesLineups_36 n μ a0 a1 a2) (a0.toInt.toNat - 0) 0 (fX12_isAct μ a0)).2 = 0 then (mX12_triesLineups n μ (a0 + 1) a1 a2) else (mX12_triesLineups n (mX12_triesLineups n μ (a0 + 1) (a1 ||| (1 <<< (a0 &&& 31))) (a2 + (fX12_pleases μ a0))) (a0 + 1) a1 a2))) := rfl
noncomputable def qX12_triesLineups : Nat → rj_M → Int32 → Int32 → Int32 → Prop
  | 0, _, _, _, _ => False
  | n + 1, μ, a0, a1, a2 => (((a0 = 16) → True) ∧ ((¬ (a0 = 16)) → ((((rj_br (bX12_triesLineups_36 n μ a0 a1 a2) (a0.toInt.toNat - 0) 0 (fX12_isAct μ a0)).2 = 0) → (qX12_triesLineups n μ (a0 + 1) a1 a2 ∧ True)) ∧ ((¬ ((rj_br (bX12_triesLineups_36 n μ a0 a1 a2) (a0.toInt.toNat - 0) 0 (fX12_isAct μ a0)).2 = 0)) → (qX12_triesLineups n μ (a0 + 1) (a1 ||| (1 <<< (a0 &&& 31))) (a2 + (fX12_pleases μ a0)) ∧ qX12_triesLineups n (mX12_triesLineups n μ (a0 + 1) (a1 ||| (1 <<< (a0 &&& 31))) (a2 + (fX12_pleases μ a0))) (a0 + 1) a1 a2 ∧ True)))))
theorem qX12_triesLineups_s (n : Nat) (μ : rj_M) (a0 : Int32) (a1 : Int32) (a2 : Int32) : qX12_triesLineups (n + 1) μ a0 a1 a2 = (((a0 = 16) → True) ∧ ((¬ (a0 = 16)) → ((((rj_br (bX12_triesLineups_36 n μ a0 a1 a2) (a0.toInt.toNat - 0) 0 (fX12_isAct μ a0)).2 = 0) → (qX12_triesLineups n μ (a0 + 1) a1 a2 ∧ True)) ∧ ((¬ ((rj_br (bX12_triesLineups_36 n μ a0 a1 a2) (a0.toInt.toNat - 0) 0 (fX12_isAct μ a0)).2 = 0)) → (qX12_triesLineups n μ (a0 + 1) (a1 ||| (1 <<< (a0 &&& 31))) (a2 + (fX12_pleases μ a0)) ∧ qX12_triesLineups n (mX12_triesLineups n μ (a0 + 1) (a1 ||| (1 <<< (a0 &&& 31))) (a2 + (fX12_pleases μ a0))) (a0 + 1) a1 a2 ∧ True))))) := rfl
set_option maxHeartbeats 4000000 in
set_option maxRecDepth 100000 in
theorem lX12_triesLineups_36 {g : rj_G} {ω : rj_W} (hω : rj_ok ω) (n : Nat) (μ : rj_M) (a0 : Int32) (a1 : Int32) (a2 : Int32)     (hp_a0 : (vp_in a0 17)) (h1 : ¬ (a0 = 16)) {F : rj_F} : ∀ (r j : Nat) (s : Int32), r = a0.toInt.toNat - j → j < 2 ^ 31 → (rj_R g RX12 cX12_triesLineups 6 none wsX12_triesLineups [] (rj_rm (4 + (n + 1)) 0) F 0 ω μ [(0, .ref (ω.2.2 395)), (1, .int a0), (2, .int a1), (3, .int a2), (4, .int ((rj_br (bX12_triesLineups_36 n μ a0 a1 a2) r j s).2)), (5, .int (nI (rj_br (bX12_triesLineups_36 n μ a0 a1 a2) r j s).1))] 79 []) → rj_R g RX12 cX12_triesLineups 6 none wsX12_triesLineups [] (rj_rm (4 + (n + 1)) 0) F 0 ω μ [(0, .ref (ω.2.2 395)), (1, .int a0), (2, .int a1), (3, .int a2), (4, .int s), (5, .int (nI j))] 36 [] := by
  intro r
  induction r with
  | zero =>
    intro j s hj hJ K
    have e0 : a0.toInt.toNat ≤ j := by omega
    have hge : a0 ≤ nI j := (rj_leN hJ).mpr e0
    refine rj_iload 5 dX12_triesLineups_36 rfl rfl ?_
    refine rj_iload_n 1 dX12_triesLineups_38 rfl rfl ?_
    refine rj_icmp_ge dX12_triesLineups_39 rfl rfl (fun h6 => ?_) (fun h6 => ?_)
    · rw [rj_br_0] at K
      exact K
    · exact absurd hge h6
  | succ r ih =>
    intro j36 s36 hj hJ K
    have hl36 : j36 < a0.toInt.toNat := by omega
    have hg36 : ¬ a0 ≤ nI j36 := fun z => absurd ((rj_leN hJ).mp z) (by omega)
    have hN := rj_tN a0
    refine rj_iload 5 dX12_triesLineups_36 rfl rfl ?_
    refine rj_iload_n 1 dX12_triesLineups_38 rfl rfl ?_
    refine rj_icmp_ge dX12_triesLineups_39 rfl rfl (fun h2 => ?_) (fun h2 => ?_)
    · exact absurd h2 hg36
    · refine rj_iload 4 dX12_triesLineups_42 rfl rfl ?_
      refine rj_if_eq dX12_triesLineups_44 rfl rfl (fun h3 => ?_) (fun h3 => ?_)
      · skip
        have e : bX12_triesLineups_36 n μ a0 a1 a2 j36 s36 = .inr (j36, s36) := by unfold bX12_triesLineups_36; rw [if_pos h3]; try rfl
        exact rj_sub (l' := [(0, .ref (ω.2.2 395)), (1, .int a0), (2, .int a1), (3, .int a2), (4, .int s36), (5, .int (nI j36))]) [0, 1, 2, 3, 4, 5] rfl (by rw [rj_br_r e] at K; exact K)
      · skip
        refine rj_iload_n 2 dX12_triesLineups_47 rfl rfl ?_
        refine rj_iload 5 dX12_triesLineups_48 rfl rfl ?_
        refine rj_ishr dX12_triesLineups_50 rfl ?_
        refine rj_iconst (v := 1) dX12_triesLineups_51 rfl (by decide) ?_
        refine rj_iand dX12_triesLineups_52 rfl ?_
        refine rj_if_eq dX12_triesLineups_53 rfl rfl (fun h4 => ?_) (fun h4 => ?_)
        · skip
          refine rj_iconst (v := 1) dX12_triesLineups_66 rfl (by decide) ?_
          refine rj_goto dX12_triesLineups_67 rfl ?_
          refine rj_istore (l' := [(4, .int 1), (0, .ref (ω.2.2 395)), (1, .int a0), (2, .int a1), (3, .int a2), (5, .int (nI j36))]) dX12_triesLineups_71 rfl (rj_bl rfl) rfl ?_
          refine rj_iinc (v := nI (j36 + 1)) (l' := [(5, .int (nI (j36 + 1))), (4, .int 1), (0, .ref (ω.2.2 395)), (1, .int a0), (2, .int a1), (3, .int a2)]) 5 dX12_triesLineups_73 rfl rfl (nI_succ j36).symm (rj_bl rfl) rfl ?_
          refine rj_goto dX12_triesLineups_76 rfl ?_
          have e : bX12_triesLineups_36 n μ a0 a1 a2 j36 s36 = .inl 1 := by unfold bX12_triesLineups_36; rw [if_neg h3]; rw [if_pos h4]; try rfl
          exact rj_sub (l' := [(0, .ref (ω.2.2 395)), (1, .int a0), (2, .int a1), (3, .int a2), (4, .int 1), (5, .int (nI (j36 + 1)))]) [2, 3, 4, 5, 1, 0] rfl (ih (j36 + 1) 1 (by omega) (by omega) (by rw [rj_br_l e] at K; exact K))
        · skip
          refine rj_aload_n 0 dX12_triesLineups_56 rfl rfl ?_
          refine rj_iload 5 dX12_triesLineups_57 rfl rfl ?_
          refine rj_iload_n 1 dX12_triesLineups_59 rfl rfl ?_
          refine rj_cV (rest := []) (sX12_areClashing (g := g) (ω := ω) hω μ (nI j36) a0  (rj_ltin hl36 (rj_lt17 hp_a0 h1) rfl) (rj_lt17 hp_a0 h1) ) gX12_triesLineups_X12_areClashing (rj_lt hω (k := 395) rfl) (rj_sh hω ly_395) rfl rfl hVX12_areClashing ⟨by omega, by omega⟩ dX12_triesLineups_60 rfl rfl rfl (Nat.le_of_ble_eq_true rfl) rfl (Nat.le_of_ble_eq_true rfl) rfl ?_
          refine rj_if_ne dX12_triesLineups_63 rfl rfl (fun h5 => ?_) (fun h5 => ?_)
          · skip
            refine rj_iconst (v := 0) dX12_triesLineups_70 rfl (by decide) ?_
            refine rj_istore (l' := [(4, .int 0), (0, .ref (ω.2.2 395)), (1, .int a0), (2, .int a1), (3, .int a2), (5, .int (nI j36))]) dX12_triesLineups_71 rfl (rj_bl rfl) rfl ?_
            refine rj_iinc (v := nI (j36 + 1)) (l' := [(5, .int (nI (j36 + 1))), (4, .int 0), (0, .ref (ω.2.2 395)), (1, .int a0), (2, .int a1), (3, .int a2)]) 5 dX12_triesLineups_73 rfl rfl (nI_succ j36).symm (rj_bl rfl) rfl ?_
            refine rj_goto dX12_triesLineups_76 rfl ?_
            have e : bX12_triesLineups_36 n μ a0 a1 a2 j36 s36 = .inl 0 := by unfold bX12_triesLineups_36; rw [if_neg h3]; rw [if_neg h4]; rw [if_neg h5]; try rfl
            exact rj_sub (l' := [(0, .ref (ω.2.2 395)), (1, .int a0), (2, .int a1), (3, .int a2), (4, .int 0), (5, .int (nI (j36 + 1)))]) [2, 3, 4, 5, 1, 0] rfl (ih (j36 + 1) 0 (by omega) (by omega) (by rw [rj_br_l e] at K; exact K))
          · skip
            refine rj_iconst (v := 1) dX12_triesLineups_66 rfl (by decide) ?_
            refine rj_goto dX12_triesLineups_67 rfl ?_
            refine rj_istore (l' := [(4, .int 1), (0, .ref (ω.2.2 395)), (1, .int a0), (2, .int a1), (3, .int a2), (5, .int (nI j36))]) dX12_triesLineups_71 rfl (rj_bl rfl) rfl ?_
            refine rj_iinc (v := nI (j36 + 1)) (l' := [(5, .int (nI (j36 + 1))), (4, .int 1), (0, .ref (ω.2.2 395)), (1, .int a0), (2, .int a1), (3, .int a2)]) 5 dX12_triesLineups_73 rfl rfl (nI_succ j36).symm (rj_bl rfl) rfl ?_
            refine rj_goto dX12_triesLineups_76 rfl ?_
            have e : bX12_triesLineups_36 n μ a0 a1 a2 j36 s36 = .inl 1 := by unfold bX12_triesLineups_36; rw [if_neg h3]; rw [if_neg h4]; rw [if_pos h5]; try rfl
            exact rj_sub (l' := [(0, .ref (ω.2.2 395)), (1, .int a0), (2, .int a1), (3, .int a2), (4, .int 1), (5, .int (nI (j36 + 1)))]) [2, 3, 4, 5, 1, 0] rfl (ih (j36 + 1) 1 (by omega) (by omega) (by rw [rj_br_l e] at K; exact K))
set_option maxHeartbeats 40000000 in
set_option maxRecDepth 100000 in
theorem sX12_triesLineups {g : rj_G} {ω : rj_W} (hω : rj_ok ω) : ∀ (n : Nat) (μ : rj_M) (a0 : Int32) (a1 : Int32) (a2 : Int32), vp_in a0 17 → qX12_triesLineups n μ a0 a1 a2 → rj_Sp g yX12_triesLineups wsX12_triesLineups (rj_rm (4 + n) 0) [.ref (ω.2.2 395), .int a0, .int a1, .int a2] ω μ (rj_D (.inl none) ω (mX12_triesLineups n μ a0 a1 a2)) := by
  intro n
  induction n with
  | zero =>
    intro μ a0 a1 a2 hp_a0 hq
    exact hq.elim
  | succ n ih =>
    intro μ a0 a1 a2 hp_a0 hq
    have hqa := hq
    rw [qX12_triesLineups_s] at hqa
    refine rj_of' (cc := cX12_triesLineups) (nL := 6) (ret := none) (own := RX12) (l0 := [(0, .ref (ω.2.2 395)), (1, .int a0), (2, .int a1), (3, .int a2)]) rfl (by decide +kernel) rfl (Nat.le_of_ble_eq_true rfl) rfl ?_
    refine rj_iload_n 1 dX12_triesLineups_0 rfl rfl ?_
    refine rj_bipush (v := 16) dX12_triesLineups_1 rfl (by decide) ?_
    refine rj_icmp_ne dX12_triesLineups_3 rfl rfl (fun h1 => ?_) (fun h1 => ?_)
    · have hq1 := (And.right hqa) h1
      refine rj_aload_n 0 dX12_triesLineups_26 rfl rfl ?_
      refine rj_iload_n 1 dX12_triesLineups_27 rfl rfl ?_
      refine rj_cV (rest := []) (sX12_isAct (g := g) (ω := ω) hω μ a0   ) gX12_triesLineups_X12_isAct (rj_lt hω (k := 395) rfl) (rj_sh hω ly_395) rfl rfl hVX12_isAct ⟨by omega, by omega⟩ dX12_triesLineups_28 rfl rfl rfl (Nat.le_of_ble_eq_true rfl) rfl (Nat.le_of_ble_eq_true rfl) rfl ?_
      refine rj_istore (l' := [(4, .int (fX12_isAct μ a0)), (0, .ref (ω.2.2 395)), (1, .int a0), (2, .int a1), (3, .int a2)]) dX12_triesLineups_31 rfl (rj_bl rfl) rfl ?_
      refine rj_iconst (v := 0) dX12_triesLineups_33 rfl (by decide) ?_
      refine rj_istore (l' := [(5, .int 0), (4, .int (fX12_isAct μ a0)), (0, .ref (ω.2.2 395)), (1, .int a0), (2, .int a1), (3, .int a2)]) dX12_triesLineups_34 rfl (rj_bl rfl) rfl ?_
      refine rj_sub (l' := [(0, .ref (ω.2.2 395)), (1, .int a0), (2, .int a1), (3, .int a2), (4, .int (fX12_isAct μ a0)), (5, .int (nI 0))]) [2, 3, 4, 5, 1, 0] rfl ?_
      refine lX12_triesLineups_36 hω n μ a0 a1 a2     hp_a0 h1 (a0.toInt.toNat - 0) 0 (fX12_isAct μ a0) rfl (rj_bl rfl) ?_
      refine rj_iload 4 dX12_triesLineups_79 rfl rfl ?_
      refine rj_if_eq dX12_triesLineups_81 rfl rfl (fun h7 => ?_) (fun h7 => ?_)
      · have hq8 := (And.left hq1) h7
        refine rj_aload_n 0 dX12_triesLineups_103 rfl rfl ?_
        refine rj_iload_n 1 dX12_triesLineups_104 rfl rfl ?_
        refine rj_iconst (v := 1) dX12_triesLineups_105 rfl (by decide) ?_
        refine rj_iadd dX12_triesLineups_106 rfl ?_
        refine rj_iload_n 2 dX12_triesLineups_107 rfl rfl ?_
        refine rj_iload_n 3 dX12_triesLineups_108 rfl rfl ?_
        refine rj_cV (rest := []) (ih μ (a0 + 1) a1 a2 (rj_vle (rj_vadd (N := 17) (rj_lt17 hp_a0 h1) (vp_in_nI (n := 1) (N := 2) (rj_bl rfl) (rj_bl rfl)) rfl rfl) rfl) (And.left hq8)) gX12_triesLineups_X12_triesLineups (rj_lt hω (k := 395) rfl) (rj_sh hω ly_395) rfl rfl hVX12_triesLineups ⟨by omega, by omega⟩ dX12_triesLineups_109 rfl rfl rfl (Nat.le_of_ble_eq_true rfl) rfl (Nat.le_of_ble_eq_true rfl) rfl ?_
        exact rj_vret dX12_triesLineups_112 rfl (Nat.le_of_ble_eq_true rfl) (Nat.le_of_ble_eq_true rfl) ⟨rfl, rfl, (by rw [mX12_triesLineups_s]; rw [if_neg h1]; rw [if_pos h7]; try rfl)⟩
      · have hq9 := (And.right hq1) h7
        refine rj_aload_n 0 dX12_triesLineups_84 rfl rfl ?_
        refine rj_iload_n 1 dX12_triesLineups_85 rfl rfl ?_
        refine rj_iconst (v := 1) dX12_triesLineups_86 rfl (by decide) ?_
        refine rj_iadd dX12_triesLineups_87 rfl ?_
        refine rj_iload_n 2 dX12_triesLineups_88 rfl rfl ?_
        refine rj_iconst (v := 1) dX12_triesLineups_89 rfl (by decide) ?_
        refine rj_iload_n 1 dX12_triesLineups_90 rfl rfl ?_
        refine rj_ishl dX12_triesLineups_91 rfl ?_
        refine rj_ior dX12_triesLineups_92 rfl ?_
        refine rj_iload_n 3 dX12_triesLineups_93 rfl rfl ?_
        refine rj_aload_n 0 dX12_triesLineups_94 rfl rfl ?_
        refine rj_iload_n 1 dX12_triesLineups_95 rfl rfl ?_
        refine rj_cV (rest := [.int a2, .int (a1 ||| (1 <<< (a0 &&& 31))), .int (a0 + 1), .ref (ω.2.2 395)]) (sX12_pleases (g := g) (ω := ω) hω μ a0  (rj_lt17 hp_a0 h1) ) gX12_triesLineups_X12_pleases (rj_lt hω (k := 395) rfl) (rj_sh hω ly_395) rfl rfl hVX12_pleases ⟨by omega, by omega⟩ dX12_triesLineups_96 rfl rfl rfl (Nat.le_of_ble_eq_true rfl) rfl (Nat.le_of_ble_eq_true rfl) rfl ?_
        refine rj_iadd dX12_triesLineups_99 rfl ?_
        refine rj_cV (rest := []) (ih μ (a0 + 1) (a1 ||| (1 <<< (a0 &&& 31))) (a2 + (fX12_pleases μ a0)) (rj_vle (rj_vadd (N := 17) (rj_lt17 hp_a0 h1) (vp_in_nI (n := 1) (N := 2) (rj_bl rfl) (rj_bl rfl)) rfl rfl) rfl) (And.left hq9)) gX12_triesLineups_X12_triesLineups (rj_lt hω (k := 395) rfl) (rj_sh hω ly_395) rfl rfl hVX12_triesLineups ⟨by omega, by omega⟩ dX12_triesLineups_100 rfl rfl rfl (Nat.le_of_ble_eq_true rfl) rfl (Nat.le_of_ble_eq_true rfl) rfl ?_
        refine rj_aload_n 0 dX12_triesLineups_103 rfl rfl ?_
        refine rj_iload_n 1 dX12_triesLineups_104 rfl rfl ?_
        refine rj_iconst (v := 1) dX12_triesLineups_105 rfl (by decide) ?_
        refine rj_iadd dX12_triesLineups_106 rfl ?_
        refine rj_iload_n 2 dX12_triesLineups_107 rfl rfl ?_
        refine rj_iload_n 3 dX12_triesLineups_108 rfl rfl ?_
        refine rj_cV (rest := []) (ih (mX12_triesLineups n μ (a0 + 1) (a1 ||| (1 <<< (a0 &&& 31))) (a2 + (fX12_pleases μ a0))) (a0 + 1) a1 a2 (rj_vle (rj_vadd (N := 17) (rj_lt17 hp_a0 h1) (vp_in_nI (n := 1) (N := 2) (rj_bl rfl) (rj_bl rfl)) rfl rfl) rfl) (And.left (And.right hq9))) gX12_triesLineups_X12_triesLineups (rj_lt hω (k := 395) rfl) (rj_sh hω ly_395) rfl rfl hVX12_triesLineups ⟨by omega, by omega⟩ dX12_triesLineups_109 rfl rfl rfl (Nat.le_of_ble_eq_true rfl) rfl (Nat.le_of_ble_eq_true rfl) rfl ?_
        exact rj_vret dX12_triesLineups_112 rfl (Nat.le_of_ble_eq_true rfl) (Nat.le_of_ble_eq_true rfl) ⟨rfl, rfl, (by rw [mX12_triesLineups_s]; rw [if_neg h1]; rw [if_neg h7]; try rfl)⟩
    · skip
      refine rj_iload_n 3 dX12_triesLineups_6 rfl rfl ?_
      refine rj_aload_n 0 dX12_triesLineups_7 rfl rfl ?_
      refine rj_getI (C0 := RX12) (T := TX12) (N := 16) (j := 5) dX12_triesLineups_8 rfl vX12_triesLineups_12 rfl (rj_lt hω (k := 395) rfl) (rj_sh hω ly_395) (by decide) kX12_triesLineups_124 rfl ?_
      refine rj_icmp_gt dX12_triesLineups_11 rfl rfl (fun h8 => ?_) (fun h8 => ?_)
      · skip
        refine rj_aload_n 0 dX12_triesLineups_15 rfl rfl ?_
        refine rj_iload_n 3 dX12_triesLineups_16 rfl rfl ?_
        refine rj_putI (C0 := RX12) (T := TX12) (N := 16) (j := 5) dX12_triesLineups_17 rfl vX12_triesLineups_12 rfl (rj_lt hω (k := 395) rfl) (rj_sh hω ly_395) (by decide) kX12_triesLineups_124 tyX12 tyX12_ok nmX12 rfl rfl rfl rfl ?_
        refine rj_aload_n 0 dX12_triesLineups_20 rfl rfl ?_
        refine rj_iload_n 2 dX12_triesLineups_21 rfl rfl ?_
        refine rj_putI (C0 := RX12) (T := TX12) (N := 16) (j := 4) dX12_triesLineups_22 rfl vX12_triesLineups_12 rfl (rj_lt hω (k := 395) rfl) (rj_sh hω ly_395) (by decide) kX12_triesLineups_127 tyX12 tyX12_ok nmX12 rfl rfl rfl rfl ?_
        exact rj_vret dX12_triesLineups_25 rfl (Nat.le_of_ble_eq_true rfl) (Nat.le_of_ble_eq_true rfl) ⟨rfl, rfl, (by rw [mX12_triesLineups_s]; rw [if_pos h1]; rw [if_pos h8]; try rfl)⟩
      · skip
        exact rj_vret dX12_triesLineups_14 rfl (Nat.le_of_ble_eq_true rfl) (Nat.le_of_ble_eq_true rfl) ⟨rfl, rfl, (by rw [mX12_triesLineups_s]; rw [if_pos h1]; rw [if_neg h8]; try rfl)⟩
theorem sX12_triesLineupsF {g : rj_G} {ω : rj_W} (hω : rj_ok ω) (μ : rj_M) (a0 : Int32) (a1 : Int32) (a2 : Int32) (hp_a0 : vp_in a0 17) (hq : qX12_triesLineups rz17 μ a0 a1 a2) : rj_Sp g yX12_triesLineups wsX12_triesLineups (rj_rm 21 0) [.ref (ω.2.2 395), .int a0, .int a1, .int a2] ω μ (rj_D (.inl none) ω (mX12_triesLineups rz17 μ a0 a1 a2)) := by
  have h := sX12_triesLineups (g := g) (ω := ω) hω rz17 μ a0 a1 a2 hp_a0 hq
  rw [show 4 + rz17 = 21 from by rw [rz17_eq]] at h
  exact h
theorem hSX12_lineup : yX12_lineup.cls ≠ "java/lang/invoke/MethodHandle" ∧ yX12_lineup.cls ≠ "java/lang/invoke/VarHandle" ∧ (parseMethodDescriptor yX12_lineup.desc).map (fun d => d.parameters.length) = some 0 := by decide +kernel
theorem hVX12_lineup : yX12_lineup.cls = RX12 ∧ yX12_lineup.cls ≠ "java/lang/invoke/MethodHandle" ∧ yX12_lineup.cls ≠ "java/lang/invoke/VarHandle" ∧ (parseMethodDescriptor yX12_lineup.desc).map (fun d => d.parameters.length) = some 0 := by decide +kernel
theorem vX12_lineup_12 : ∀ w ∈ u_ws RX12 TX12 16, w ∈ wsX12_lineup := by decide +kernel
theorem kX12_lineup_124 : Cond.fieldLink RX12 124 (TX12 5).1 (TX12 5).2.1 (TX12 5).2.2.1 ∈ wsX12_lineup := by decide +kernel
theorem kX12_lineup_127 : Cond.fieldLink RX12 127 (TX12 4).1 (TX12 4).2.1 (TX12 4).2.2.1 ∈ wsX12_lineup := by decide +kernel
noncomputable def fX12_lineup (μ : rj_M) : Int32 := ((mX12_triesLineups rz17 (rj_pi μ 395 5 (-1)) 0 0 0).1 395 4)
noncomputable def mX12_lineup (μ : rj_M) : rj_M := (mX12_triesLineups rz17 (rj_pi μ 395 5 (-1)) 0 0 0)
noncomputable def qX12_lineup (μ : rj_M) : Prop := (qX12_triesLineups rz17 (rj_pi μ 395 5 (-1)) 0 0 0 ∧ True)
set_option maxHeartbeats 40000000 in
set_option maxRecDepth 100000 in
theorem sX12_lineup {g : rj_G} {ω : rj_W} (hω : rj_ok ω) (μ : rj_M)   (hq : qX12_lineup μ) : rj_Sp g yX12_lineup wsX12_lineup (rj_rm 22 0) [.ref (ω.2.2 395)] ω μ (rj_D (.inl (some (.int (fX12_lineup μ)))) ω (mX12_lineup μ)) := by
  have hqa := hq
  unfold qX12_lineup at hqa
  refine rj_of' (cc := cX12_lineup) (nL := 1) (ret := (some .int)) (own := RX12) (l0 := [(0, .ref (ω.2.2 395))]) rfl (by decide +kernel) rfl (Nat.le_of_ble_eq_true rfl) rfl ?_
  refine rj_aload_n 0 dX12_lineup_0 rfl rfl ?_
  refine rj_iconst (v := (-1)) dX12_lineup_1 rfl (by decide) ?_
  refine rj_putI (C0 := RX12) (T := TX12) (N := 16) (j := 5) dX12_lineup_2 rfl vX12_lineup_12 rfl (rj_lt hω (k := 395) rfl) (rj_sh hω ly_395) (by decide) kX12_lineup_124 tyX12 tyX12_ok nmX12 rfl rfl rfl rfl ?_
  refine rj_aload_n 0 dX12_lineup_5 rfl rfl ?_
  refine rj_iconst (v := 0) dX12_lineup_6 rfl (by decide) ?_
  refine rj_iconst (v := 0) dX12_lineup_7 rfl (by decide) ?_
  refine rj_iconst (v := 0) dX12_lineup_8 rfl (by decide) ?_
  refine rj_cV (rest := []) (sX12_triesLineupsF (g := g) (ω := ω) hω (rj_pi μ 395 5 (-1)) 0 0 0  (vp_in_nI (n := 0) (rj_bl rfl) (rj_bl rfl)) (And.left hqa)) gX12_lineup_X12_triesLineups (rj_lt hω (k := 395) rfl) (rj_sh hω ly_395) rfl rfl hVX12_triesLineups ⟨Nat.le_of_ble_eq_true rfl, Nat.le_of_ble_eq_true rfl⟩ dX12_lineup_9 rfl rfl rfl (Nat.le_of_ble_eq_true rfl) rfl (Nat.le_of_ble_eq_true rfl) rfl ?_
  refine rj_aload_n 0 dX12_lineup_12 rfl rfl ?_
  refine rj_getI (C0 := RX12) (T := TX12) (N := 16) (j := 4) dX12_lineup_13 rfl vX12_lineup_12 rfl (rj_lt hω (k := 395) rfl) (rj_sh hω ly_395) (by decide) kX12_lineup_127 rfl ?_
  exact rj_iret dX12_lineup_16 rfl (Nat.le_of_ble_eq_true rfl) (Nat.le_of_ble_eq_true rfl) ⟨(by unfold fX12_lineup; rfl), rfl, (by unfold mX12_lineup; rfl)⟩
