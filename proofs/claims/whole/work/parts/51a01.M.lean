theorem hSX12_mostOnStage : yX12_mostOnStage.cls ≠ "java/lang/invoke/MethodHandle" ∧ yX12_mostOnStage.cls ≠ "java/lang/invoke/VarHandle" ∧ (parseMethodDescriptor yX12_mostOnStage.desc).map (fun d => d.parameters.length) = some 3 := by decide +kernel
theorem hVX12_mostOnStage : yX12_mostOnStage.cls = RX12 ∧ yX12_mostOnStage.cls ≠ "java/lang/invoke/MethodHandle" ∧ yX12_mostOnStage.cls ≠ "java/lang/invoke/VarHandle" ∧ (parseMethodDescriptor yX12_mostOnStage.desc).map (fun d => d.parameters.length) = some 3 := by decide +kernel
theorem jX12_mostOnStage_140_0 : Cond.methodLink RX12 140 Lib.Math.max.name ∈ wsX12_mostOnStage := by decide +kernel
theorem jX12_mostOnStage_140_1 : Cond.static Lib.Math.max.name ∈ wsX12_mostOnStage := by decide +kernel
theorem jX12_mostOnStage_140_2 : Cond.initialized "java/lang/Math" ∈ wsX12_mostOnStage := by decide +kernel
theorem jX12_mostOnStage_140_3 : Cond.code Lib.Math.max.name Lib.Math.max.code 2 (some .int) ∈ wsX12_mostOnStage := by decide +kernel
noncomputable def bX12_mostOnStage_47 (n : Nat) (μ : rj_M) (a0 : Int32) (a1 : Int32) (a2 : Int32) (j47 : Nat) (s47 : Int32) : Int32 ⊕ (Nat × Int32) := (if s47 = 0 then .inr (j47, s47) else (if ((a2 >>> ((nI j47) &&& 31)) &&& 1) = 0 then .inl 1 else (if (fX12_piecesMeet μ (nI j47) a1) = 0 then .inl 1 else .inl 0)))
noncomputable def bX12_mostOnStage_47b (n : Nat) (μ : rj_M) (a0 : Int32) (a1 : Int32) (a2 : Int32) (j47 : Nat) (s47 : Int32) : Int32 ⊕ (Nat × Int32) := (if s47 = 0 then .inr (j47, s47) else (if ((a2 >>> ((nI j47) &&& 31)) &&& 1) = 0 then .inl 1 else (if (fX12_piecesMeet μ (nI j47) a1) = 0 then .inl 1 else .inl 0)))
noncomputable def bX12_mostOnStage_47c (n : Nat) (μ : rj_M) (a0 : Int32) (a1 : Int32) (a2 : Int32) (j47 : Nat) (s47 : Int32) : Int32 ⊕ (Nat × Int32) := (if s47 = 0 then .inr (j47, s47) else (if ((a2 >>> ((nI j47) &&& 31)) &&& 1) = 0 then .inl 1 else (if (fX12_piecesMeet μ (nI j47) a1) = 0 then .inl 1 else .inl 0)))
noncomputable def fX12_mostOnStage : Nat → rj_M → Int32 → Int32 → Int32 → Int32
  | 0, _, _, _, _ => 0
  | n + 1, μ, a0, a1, a2 => (if a1 = 16 then 0 else (if (fX12_isAct μ a1) = 0 then (if (rj_br (bX12_mostOnStage_47 n μ a0 a1 a2) (a1.toInt.toNat - 0) 0 0).2 = 0 then (fX12_mostOnStage n μ a0 (a1 + 1) a2) else (if (fX12_mostOnStage n μ a0 (a1 + 1) a2) < ((fX12_pleases μ a1) + (fX12_mostOnStage n μ a0 (a1 + 1) (a2 ||| (1 <<< (a1 &&& 31))))) then ((fX12_pleases μ a1) + (fX12_mostOnStage n μ a0 (a1 + 1) (a2 ||| (1 <<< (a1 &&& 31))))) else (fX12_mostOnStage n μ a0 (a1 + 1) a2))) else (if (fX12_its μ a1 1) = a0 then (if (rj_br (bX12_mostOnStage_47c n μ a0 a1 a2) (a1.toInt.toNat - 0) 0 1).2 = 0 then (fX12_mostOnStage n μ a0 (a1 + 1) a2) else (if (fX12_mostOnStage n μ a0 (a1 + 1) a2) < ((fX12_pleases μ a1) + (fX12_mostOnStage n μ a0 (a1 + 1) (a2 ||| (1 <<< (a1 &&& 31))))) then ((fX12_pleases μ a1) + (fX12_mostOnStage n μ a0 (a1 + 1) (a2 ||| (1 <<< (a1 &&& 31))))) else (fX12_mostOnStage n μ a0 (a1 + 1) a2))) else (if (rj_br (bX12_mostOnStage_47b n μ a0 a1 a2) (a1.toInt.toNat - 0) 0 0).2 = 0 then (fX12_mostOnStage n μ a0 (a1 + 1) a2) else (if (fX12_mostOnStage n μ a0 (a1 + 1) a2) < ((fX12_pleases μ a1) + (fX12_mostOnStage n μ a0 (a1 + 1) (a2 ||| (1 <<< (a1 &&& 31))))) then ((fX12_pleases μ a1) + (fX12_mostOnStage n μ a0 (a1 + 1) (a2 ||| (1 <<< (a1 &&& 31))))) else (fX12_mostOnStage n μ a0 (a1 + 1) a2))))))
theorem fX12_mostOnStage_s (n : Nat) (μ : rj_M) (a0 : Int32) (a1 : Int32) (a2 : Int32) : fX12_mostOnStage (n + 1) μ a0 a1 a2 = (if a1 = 16 then 0 else (if (fX12_isAct μ a1) = 0 then (if (rj_br (bX12_mostOnStage_47 n μ a0 a1 a2) (a1.toInt.toNat - 0) 0 0).2 = 0 then (fX12_mostOnStage n μ a0 (a1 + 1) a2) else (if (fX12_mostOnStage n μ a0 (a1 + 1) a2) < ((fX12_pleases μ a1) + (fX12_mostOnStage n μ a0 (a1 + 1) (a2 ||| (1 <<< (a1 &&& 31))))) then ((fX12_pleases μ a1) + (fX12_mostOnStage n μ a0 (a1 + 1) (a2 ||| (1 <<< (a1 &&& 31))))) else (fX12_mostOnStage n μ a0 (a1 + 1) a2))) else (if (fX12_its μ a1 1) = a0 then (if (rj_br (bX12_mostOnStage_47c n μ a0 a1 a2) (a1.toInt.toNat - 0) 0 1).2 = 0 then (fX12_mostOnStage n μ a0 (a1 + 1) a2) else (if (fX12_mostOnStage n μ a0 (a1 + 1) a2) < ((fX12_pleases μ a1) + (fX12_mostOnStage n μ a0 (a1 + 1) (a2 ||| (1 <<< (a1 &&& 31))))) then ((fX12_pleases μ a1) + (fX12_mostOnStage n μ a0 (a1 + 1) (a2 ||| (1 <<< (a1 &&& 31))))) else (fX12_mostOnStage n μ a0 (a1 + 1) a2))) else (if (rj_br (bX12_mostOnStage_47b n μ a0 a1 a2) (a1.toInt.toNat - 0) 0 0).2 = 0 then (fX12_mostOnStage n μ a0 (a1 + 1) a2) else (if (fX12_mostOnStage n μ a0 (a1 + 1) a2) < ((fX12_pleases μ a1) + (fX12_mostOnStage n μ a0 (a1 + 1) (a2 ||| (1 <<< (a1 &&& 31))))) then ((fX12_pleases μ a1) + (fX12_mostOnStage n μ a0 (a1 + 1) (a2 ||| (1 <<< (a1 &&& 31))))) else (fX12_mostOnStage n μ a0 (a1 + 1) a2)))))) := rfl
noncomputable def qX12_mostOnStage : Nat → rj_M → Int32 → Int32 → Int32 → Prop
  | 0, _, _, _, _ => False
  | n + 1, μ, a0, a1, a2 => (((a1 = 16) → True) ∧ ((¬ (a1 = 16)) → (qX12_mostOnStage n μ a0 (a1 + 1) a2 ∧ ((((fX12_isAct μ a1) = 0) → ((((rj_br (bX12_mostOnStage_47 n μ a0 a1 a2) (a1.toInt.toNat - 0) 0 0).2 = 0) → True) ∧ ((¬ ((rj_br (bX12_mostOnStage_47 n μ a0 a1 a2) (a1.toInt.toNat - 0) 0 0).2 = 0)) → (qX12_mostOnStage n μ a0 (a1 + 1) (a2 ||| (1 <<< (a1 &&& 31))) ∧ True)))) ∧ ((¬ ((fX12_isAct μ a1) = 0)) → ((((fX12_its μ a1 1) = a0) → ((((rj_br (bX12_mostOnStage_47c n μ a0 a1 a2) (a1.toInt.toNat - 0) 0 1).2 = 0) → True) ∧ ((¬ ((rj_br (bX12_mostOnStage_47c n μ a0 a1 a2) (a1.toInt.toNat - 0) 0 1).2 = 0)) → (qX12_mostOnStage n μ a0 (a1 + 1) (a2 ||| (1 <<< (a1 &&& 31))) ∧ True)))) ∧ ((¬ ((fX12_its μ a1 1) = a0)) → ((((rj_br (bX12_mostOnStage_47b n μ a0 a1 a2) (a1.toInt.toNat - 0) 0 0).2 = 0) → True) ∧ ((¬ ((rj_br (bX12_mostOnStage_47b n μ a0 a1 a2) (a1.toInt.toNat - 0) 0 0).2 = 0)) → (qX12_mostOnStage n μ a0 (a1 + 1) (a2 ||| (1 <<< (a1 &&& 31))) ∧ True))))))))))
theorem qX12_mostOnStage_s (n : Nat) (μ : rj_M) (a0 : Int32) (a1 : Int32) (a2 : Int32) : qX12_mostOnStage (n + 1) μ a0 a1 a2 = (((a1 = 16) → True) ∧ ((¬ (a1 = 16)) → (qX12_mostOnStage n μ a0 (a1 + 1) a2 ∧ ((((fX12_isAct μ a1) = 0) → ((((rj_br (bX12_mostOnStage_47 n μ a0 a1 a2) (a1.toInt.toNat - 0) 0 0).2 = 0) → True) ∧ ((¬ ((rj_br (bX12_mostOnStage_47 n μ a0 a1 a2) (a1.toInt.toNat - 0) 0 0).2 = 0)) → (qX12_mostOnStage n μ a0 (a1 + 1) (a2 ||| (1 <<< (a1 &&& 31))) ∧ True)))) ∧ ((¬ ((fX12_isAct μ a1) = 0)) → ((((fX12_its μ a1 1) = a0) → ((((rj_br (bX12_mostOnStage_47c n μ a0 a1 a2) (a1.toInt.toNat - 0) 0 1).2 = 0) → True) ∧ ((¬ ((rj_br (bX12_mostOnStage_47c n μ a0 a1 a2) (a1.toInt.toNat - 0) 0 1).2 = 0)) → (qX12_mostOnStage n μ a0 (a1 + 1) (a2 ||| (1 <<< (a1 &&& 31))) ∧ True)))) ∧ ((¬ ((fX12_its μ a1 1) = a0)) → ((((rj_br (bX12_mostOnStage_47b n μ a0 a1 a2) (a1.toInt.toNat - 0) 0 0).2 = 0) → True) ∧ ((¬ ((rj_br (bX12_mostOnStage_47b n μ a0 a1 a2) (a1.toInt.toNat - 0) 0 0).2 = 0)) → (qX12_mostOnStage n μ a0 (a1 + 1) (a2 ||| (1 <<< (a1 &&& 31))) ∧ True)))))))))) := rfl
set_option maxHeartbeats 4000000 in
set_option maxRecDepth 100000 in
theorem lX12_mostOnStage_47 {g : rj_G} {ω : rj_W} (hω : rj_ok ω) (n : Nat) (μ : rj_M) (a0 : Int32) (a1 : Int32) (a2 : Int32)     (hp_a1 : (vp_in a1 17)) (h1 : ¬ (a1 = 16)) (h2 : ((fX12_isAct μ a1) = 0)) {F : rj_F} : ∀ (r j : Nat) (s : Int32), r = a1.toInt.toNat - j → j < 2 ^ 31 → (rj_R g RX12 cX12_mostOnStage 7 (some .int) wsX12_mostOnStage [] (rj_rm (3 + (n + 1)) 0) F 0 ω μ [(0, .ref (ω.2.2 395)), (1, .int a0), (2, .int a1), (3, .int a2), (4, .int (fX12_mostOnStage n μ a0 (a1 + 1) a2)), (5, .int ((rj_br (bX12_mostOnStage_47 n μ a0 a1 a2) r j s).2)), (6, .int (nI (rj_br (bX12_mostOnStage_47 n μ a0 a1 a2) r j s).1))] 90 []) → rj_R g RX12 cX12_mostOnStage 7 (some .int) wsX12_mostOnStage [] (rj_rm (3 + (n + 1)) 0) F 0 ω μ [(0, .ref (ω.2.2 395)), (1, .int a0), (2, .int a1), (3, .int a2), (4, .int (fX12_mostOnStage n μ a0 (a1 + 1) a2)), (5, .int s), (6, .int (nI j))] 47 [] := by
  intro r
  induction r with
  | zero =>
    intro j s hj hJ K
    have e0 : a1.toInt.toNat ≤ j := by omega
    have hge : a1 ≤ nI j := (rj_leN hJ).mpr e0
    refine rj_iload 6 dX12_mostOnStage_47 rfl rfl ?_
    refine rj_iload_n 2 dX12_mostOnStage_49 rfl rfl ?_
    refine rj_icmp_ge dX12_mostOnStage_50 rfl rfl (fun h7 => ?_) (fun h7 => ?_)
    · rw [rj_br_0] at K
      exact K
    · exact absurd hge h7
  | succ r ih =>
    intro j47 s47 hj hJ K
    have hl47 : j47 < a1.toInt.toNat := by omega
    have hg47 : ¬ a1 ≤ nI j47 := fun z => absurd ((rj_leN hJ).mp z) (by omega)
    have hN := rj_tN a1
    refine rj_iload 6 dX12_mostOnStage_47 rfl rfl ?_
    refine rj_iload_n 2 dX12_mostOnStage_49 rfl rfl ?_
    refine rj_icmp_ge dX12_mostOnStage_50 rfl rfl (fun h3 => ?_) (fun h3 => ?_)
    · exact absurd h3 hg47
    · refine rj_iload 5 dX12_mostOnStage_53 rfl rfl ?_
      refine rj_if_eq dX12_mostOnStage_55 rfl rfl (fun h4 => ?_) (fun h4 => ?_)
      · skip
        have e : bX12_mostOnStage_47 n μ a0 a1 a2 j47 s47 = .inr (j47, s47) := by unfold bX12_mostOnStage_47; rw [if_pos h4]; try rfl
        exact rj_sub (l' := [(0, .ref (ω.2.2 395)), (1, .int a0), (2, .int a1), (3, .int a2), (4, .int (fX12_mostOnStage n μ a0 (a1 + 1) a2)), (5, .int s47), (6, .int (nI j47))]) [0, 1, 2, 3, 4, 5, 6] rfl (by rw [rj_br_r e] at K; exact K)
      · skip
        refine rj_iload_n 3 dX12_mostOnStage_58 rfl rfl ?_
        refine rj_iload 6 dX12_mostOnStage_59 rfl rfl ?_
        refine rj_ishr dX12_mostOnStage_61 rfl ?_
        refine rj_iconst (v := 1) dX12_mostOnStage_62 rfl (by decide) ?_
        refine rj_iand dX12_mostOnStage_63 rfl ?_
        refine rj_if_eq dX12_mostOnStage_64 rfl rfl (fun h5 => ?_) (fun h5 => ?_)
        · skip
          refine rj_iconst (v := 1) dX12_mostOnStage_77 rfl (by decide) ?_
          refine rj_goto dX12_mostOnStage_78 rfl ?_
          refine rj_istore (l' := [(5, .int 1), (0, .ref (ω.2.2 395)), (1, .int a0), (2, .int a1), (3, .int a2), (4, .int (fX12_mostOnStage n μ a0 (a1 + 1) a2)), (6, .int (nI j47))]) dX12_mostOnStage_82 rfl (rj_bl rfl) rfl ?_
          refine rj_iinc (v := nI (j47 + 1)) (l' := [(6, .int (nI (j47 + 1))), (5, .int 1), (0, .ref (ω.2.2 395)), (1, .int a0), (2, .int a1), (3, .int a2), (4, .int (fX12_mostOnStage n μ a0 (a1 + 1) a2))]) 6 dX12_mostOnStage_84 rfl rfl (nI_succ j47).symm (rj_bl rfl) rfl ?_
          refine rj_goto dX12_mostOnStage_87 rfl ?_
          have e : bX12_mostOnStage_47 n μ a0 a1 a2 j47 s47 = .inl 1 := by unfold bX12_mostOnStage_47; rw [if_neg h4]; rw [if_pos h5]; try rfl
          exact rj_sub (l' := [(0, .ref (ω.2.2 395)), (1, .int a0), (2, .int a1), (3, .int a2), (4, .int (fX12_mostOnStage n μ a0 (a1 + 1) a2)), (5, .int 1), (6, .int (nI (j47 + 1)))]) [2, 3, 4, 5, 6, 1, 0] rfl (ih (j47 + 1) 1 (by omega) (by omega) (by rw [rj_br_l e] at K; exact K))
        · skip
          refine rj_aload_n 0 dX12_mostOnStage_67 rfl rfl ?_
          refine rj_iload 6 dX12_mostOnStage_68 rfl rfl ?_
          refine rj_iload_n 2 dX12_mostOnStage_70 rfl rfl ?_
          refine rj_cV (rest := []) (sX12_piecesMeet (g := g) (ω := ω) hω μ (nI j47) a1  (rj_ltin hl47 (rj_lt17 hp_a1 h1) rfl) (rj_lt17 hp_a1 h1) ) gX12_mostOnStage_X12_piecesMeet (rj_lt hω (k := 395) rfl) (rj_sh hω ly_395) rfl rfl hVX12_piecesMeet ⟨by omega, by omega⟩ dX12_mostOnStage_71 rfl rfl rfl (Nat.le_of_ble_eq_true rfl) rfl (Nat.le_of_ble_eq_true rfl) rfl ?_
          refine rj_if_ne dX12_mostOnStage_74 rfl rfl (fun h6 => ?_) (fun h6 => ?_)
          · skip
            refine rj_iconst (v := 0) dX12_mostOnStage_81 rfl (by decide) ?_
            refine rj_istore (l' := [(5, .int 0), (0, .ref (ω.2.2 395)), (1, .int a0), (2, .int a1), (3, .int a2), (4, .int (fX12_mostOnStage n μ a0 (a1 + 1) a2)), (6, .int (nI j47))]) dX12_mostOnStage_82 rfl (rj_bl rfl) rfl ?_
            refine rj_iinc (v := nI (j47 + 1)) (l' := [(6, .int (nI (j47 + 1))), (5, .int 0), (0, .ref (ω.2.2 395)), (1, .int a0), (2, .int a1), (3, .int a2), (4, .int (fX12_mostOnStage n μ a0 (a1 + 1) a2))]) 6 dX12_mostOnStage_84 rfl rfl (nI_succ j47).symm (rj_bl rfl) rfl ?_
            refine rj_goto dX12_mostOnStage_87 rfl ?_
            have e : bX12_mostOnStage_47 n μ a0 a1 a2 j47 s47 = .inl 0 := by unfold bX12_mostOnStage_47; rw [if_neg h4]; rw [if_neg h5]; rw [if_neg h6]; try rfl
            exact rj_sub (l' := [(0, .ref (ω.2.2 395)), (1, .int a0), (2, .int a1), (3, .int a2), (4, .int (fX12_mostOnStage n μ a0 (a1 + 1) a2)), (5, .int 0), (6, .int (nI (j47 + 1)))]) [2, 3, 4, 5, 6, 1, 0] rfl (ih (j47 + 1) 0 (by omega) (by omega) (by rw [rj_br_l e] at K; exact K))
          · skip
            refine rj_iconst (v := 1) dX12_mostOnStage_77 rfl (by decide) ?_
            refine rj_goto dX12_mostOnStage_78 rfl ?_
            refine rj_istore (l' := [(5, .int 1), (0, .ref (ω.2.2 395)), (1, .int a0), (2, .int a1), (3, .int a2), (4, .int (fX12_mostOnStage n μ a0 (a1 + 1) a2)), (6, .int (nI j47))]) dX12_mostOnStage_82 rfl (rj_bl rfl) rfl ?_
            refine rj_iinc (v := nI (j47 + 1)) (l' := [(6, .int (nI (j47 + 1))), (5, .int 1), (0, .ref (ω.2.2 395)), (1, .int a0), (2, .int a1), (3, .int a2), (4, .int (fX12_mostOnStage n μ a0 (a1 + 1) a2))]) 6 dX12_mostOnStage_84 rfl rfl (nI_succ j47).symm (rj_bl rfl) rfl ?_
            refine rj_goto dX12_mostOnStage_87 rfl ?_
            have e : bX12_mostOnStage_47 n μ a0 a1 a2 j47 s47 = .inl 1 := by unfold bX12_mostOnStage_47; rw [if_neg h4]; rw [if_neg h5]; rw [if_pos h6]; try rfl
            exact rj_sub (l' := [(0, .ref (ω.2.2 395)), (1, .int a0), (2, .int a1), (3, .int a2), (4, .int (fX12_mostOnStage n μ a0 (a1 + 1) a2)), (5, .int 1), (6, .int (nI (j47 + 1)))]) [2, 3, 4, 5, 6, 1, 0] rfl (ih (j47 + 1) 1 (by omega) (by omega) (by rw [rj_br_l e] at K; exact K))
set_option maxHeartbeats 4000000 in
set_option maxRecDepth 100000 in
theorem lX12_mostOnStage_47b {g : rj_G} {ω : rj_W} (hω : rj_ok ω) (n : Nat) (μ : rj_M) (a0 : Int32) (a1 : Int32) (a2 : Int32)     (hp_a1 : (vp_in a1 17)) (h1 : ¬ (a1 = 16)) (h2 : ¬ ((fX12_isAct μ a1) = 0)) (h9 : ¬ ((fX12_its μ a1 1) = a0)) {F : rj_F} : ∀ (r j : Nat) (s : Int32), r = a1.toInt.toNat - j → j < 2 ^ 31 → (rj_R g RX12 cX12_mostOnStage 7 (some .int) wsX12_mostOnStage [] (rj_rm (3 + (n + 1)) 0) F 0 ω μ [(0, .ref (ω.2.2 395)), (1, .int a0), (2, .int a1), (3, .int a2), (4, .int (fX12_mostOnStage n μ a0 (a1 + 1) a2)), (5, .int ((rj_br (bX12_mostOnStage_47b n μ a0 a1 a2) r j s).2)), (6, .int (nI (rj_br (bX12_mostOnStage_47b n μ a0 a1 a2) r j s).1))] 90 []) → rj_R g RX12 cX12_mostOnStage 7 (some .int) wsX12_mostOnStage [] (rj_rm (3 + (n + 1)) 0) F 0 ω μ [(0, .ref (ω.2.2 395)), (1, .int a0), (2, .int a1), (3, .int a2), (4, .int (fX12_mostOnStage n μ a0 (a1 + 1) a2)), (5, .int s), (6, .int (nI j))] 47 [] := by
  intro r
  induction r with
  | zero =>
    intro j s hj hJ K
    have e0 : a1.toInt.toNat ≤ j := by omega
    have hge : a1 ≤ nI j := (rj_leN hJ).mpr e0
    refine rj_iload 6 dX12_mostOnStage_47 rfl rfl ?_
    refine rj_iload_n 2 dX12_mostOnStage_49 rfl rfl ?_
    refine rj_icmp_ge dX12_mostOnStage_50 rfl rfl (fun h14 => ?_) (fun h14 => ?_)
    · rw [rj_br_0] at K
      exact K
    · exact absurd hge h14
  | succ r ih =>
    intro j47 s47 hj hJ K
    have hl47 : j47 < a1.toInt.toNat := by omega
    have hg47 : ¬ a1 ≤ nI j47 := fun z => absurd ((rj_leN hJ).mp z) (by omega)
    have hN := rj_tN a1
    refine rj_iload 6 dX12_mostOnStage_47 rfl rfl ?_
    refine rj_iload_n 2 dX12_mostOnStage_49 rfl rfl ?_
    refine rj_icmp_ge dX12_mostOnStage_50 rfl rfl (fun h10 => ?_) (fun h10 => ?_)
    · exact absurd h10 hg47
    · refine rj_iload 5 dX12_mostOnStage_53 rfl rfl ?_
      refine rj_if_eq dX12_mostOnStage_55 rfl rfl (fun h11 => ?_) (fun h11 => ?_)
      · skip
        have e : bX12_mostOnStage_47b n μ a0 a1 a2 j47 s47 = .inr (j47, s47) := by unfold bX12_mostOnStage_47b; rw [if_pos h11]; try rfl
        exact rj_sub (l' := [(0, .ref (ω.2.2 395)), (1, .int a0), (2, .int a1), (3, .int a2), (4, .int (fX12_mostOnStage n μ a0 (a1 + 1) a2)), (5, .int s47), (6, .int (nI j47))]) [0, 1, 2, 3, 4, 5, 6] rfl (by rw [rj_br_r e] at K; exact K)
      · skip
        refine rj_iload_n 3 dX12_mostOnStage_58 rfl rfl ?_
        refine rj_iload 6 dX12_mostOnStage_59 rfl rfl ?_
        refine rj_ishr dX12_mostOnStage_61 rfl ?_
        refine rj_iconst (v := 1) dX12_mostOnStage_62 rfl (by decide) ?_
        refine rj_iand dX12_mostOnStage_63 rfl ?_
        refine rj_if_eq dX12_mostOnStage_64 rfl rfl (fun h12 => ?_) (fun h12 => ?_)
        · skip
          refine rj_iconst (v := 1) dX12_mostOnStage_77 rfl (by decide) ?_
          refine rj_goto dX12_mostOnStage_78 rfl ?_
          refine rj_istore (l' := [(5, .int 1), (0, .ref (ω.2.2 395)), (1, .int a0), (2, .int a1), (3, .int a2), (4, .int (fX12_mostOnStage n μ a0 (a1 + 1) a2)), (6, .int (nI j47))]) dX12_mostOnStage_82 rfl (rj_bl rfl) rfl ?_
          refine rj_iinc (v := nI (j47 + 1)) (l' := [(6, .int (nI (j47 + 1))), (5, .int 1), (0, .ref (ω.2.2 395)), (1, .int a0), (2, .int a1), (3, .int a2), (4, .int (fX12_mostOnStage n μ a0 (a1 + 1) a2))]) 6 dX12_mostOnStage_84 rfl rfl (nI_succ j47).symm (rj_bl rfl) rfl ?_
          refine rj_goto dX12_mostOnStage_87 rfl ?_
          have e : bX12_mostOnStage_47b n μ a0 a1 a2 j47 s47 = .inl 1 := by unfold bX12_mostOnStage_47b; rw [if_neg h11]; rw [if_pos h12]; try rfl
          exact rj_sub (l' := [(0, .ref (ω.2.2 395)), (1, .int a0), (2, .int a1), (3, .int a2), (4, .int (fX12_mostOnStage n μ a0 (a1 + 1) a2)), (5, .int 1), (6, .int (nI (j47 + 1)))]) [2, 3, 4, 5, 6, 1, 0] rfl (ih (j47 + 1) 1 (by omega) (by omega) (by rw [rj_br_l e] at K; exact K))
        · skip
          refine rj_aload_n 0 dX12_mostOnStage_67 rfl rfl ?_
          refine rj_iload 6 dX12_mostOnStage_68 rfl rfl ?_
          refine rj_iload_n 2 dX12_mostOnStage_70 rfl rfl ?_
          refine rj_cV (rest := []) (sX12_piecesMeet (g := g) (ω := ω) hω μ (nI j47) a1  (rj_ltin hl47 (rj_isAct h2) rfl) (rj_isAct h2) ) gX12_mostOnStage_X12_piecesMeet (rj_lt hω (k := 395) rfl) (rj_sh hω ly_395) rfl rfl hVX12_piecesMeet ⟨by omega, by omega⟩ dX12_mostOnStage_71 rfl rfl rfl (Nat.le_of_ble_eq_true rfl) rfl (Nat.le_of_ble_eq_true rfl) rfl ?_
          refine rj_if_ne dX12_mostOnStage_74 rfl rfl (fun h13 => ?_) (fun h13 => ?_)
          · skip
            refine rj_iconst (v := 0) dX12_mostOnStage_81 rfl (by decide) ?_
            refine rj_istore (l' := [(5, .int 0), (0, .ref (ω.2.2 395)), (1, .int a0), (2, .int a1), (3, .int a2), (4, .int (fX12_mostOnStage n μ a0 (a1 + 1) a2)), (6, .int (nI j47))]) dX12_mostOnStage_82 rfl (rj_bl rfl) rfl ?_
            refine rj_iinc (v := nI (j47 + 1)) (l' := [(6, .int (nI (j47 + 1))), (5, .int 0), (0, .ref (ω.2.2 395)), (1, .int a0), (2, .int a1), (3, .int a2), (4, .int (fX12_mostOnStage n μ a0 (a1 + 1) a2))]) 6 dX12_mostOnStage_84 rfl rfl (nI_succ j47).symm (rj_bl rfl) rfl ?_
            refine rj_goto dX12_mostOnStage_87 rfl ?_
            have e : bX12_mostOnStage_47b n μ a0 a1 a2 j47 s47 = .inl 0 := by unfold bX12_mostOnStage_47b; rw [if_neg h11]; rw [if_neg h12]; rw [if_neg h13]; try rfl
            exact rj_sub (l' := [(0, .ref (ω.2.2 395)), (1, .int a0), (2, .int a1), (3, .int a2), (4, .int (fX12_mostOnStage n μ a0 (a1 + 1) a2)), (5, .int 0), (6, .int (nI (j47 + 1)))]) [2, 3, 4, 5, 6, 1, 0] rfl (ih (j47 + 1) 0 (by omega) (by omega) (by rw [rj_br_l e] at K; exact K))
          · skip
            refine rj_iconst (v := 1) dX12_mostOnStage_77 rfl (by decide) ?_
            refine rj_goto dX12_mostOnStage_78 rfl ?_
            refine rj_istore (l' := [(5, .int 1), (0, .ref (ω.2.2 395)), (1, .int a0), (2, .int a1), (3, .int a2), (4, .int (fX12_mostOnStage n μ a0 (a1 + 1) a2)), (6, .int (nI j47))]) dX12_mostOnStage_82 rfl (rj_bl rfl) rfl ?_
            refine rj_iinc (v := nI (j47 + 1)) (l' := [(6, .int (nI (j47 + 1))), (5, .int 1), (0, .ref (ω.2.2 395)), (1, .int a0), (2, .int a1), (3, .int a2), (4, .int (fX12_mostOnStage n μ a0 (a1 + 1) a2))]) 6 dX12_mostOnStage_84 rfl rfl (nI_succ j47).symm (rj_bl rfl) rfl ?_
            refine rj_goto dX12_mostOnStage_87 rfl ?_
            have e : bX12_mostOnStage_47b n μ a0 a1 a2 j47 s47 = .inl 1 := by unfold bX12_mostOnStage_47b; rw [if_neg h11]; rw [if_neg h12]; rw [if_pos h13]; try rfl
            exact rj_sub (l' := [(0, .ref (ω.2.2 395)), (1, .int a0), (2, .int a1), (3, .int a2), (4, .int (fX12_mostOnStage n μ a0 (a1 + 1) a2)), (5, .int 1), (6, .int (nI (j47 + 1)))]) [2, 3, 4, 5, 6, 1, 0] rfl (ih (j47 + 1) 1 (by omega) (by omega) (by rw [rj_br_l e] at K; exact K))
set_option maxHeartbeats 4000000 in
set_option maxRecDepth 100000 in
theorem lX12_mostOnStage_47c {g : rj_G} {ω : rj_W} (hω : rj_ok ω) (n : Nat) (μ : rj_M) (a0 : Int32) (a1 : Int32) (a2 : Int32)     (hp_a1 : (vp_in a1 17)) (h1 : ¬ (a1 = 16)) (h2 : ¬ ((fX12_isAct μ a1) = 0)) (h9 : ((fX12_its μ a1 1) = a0)) {F : rj_F} : ∀ (r j : Nat) (s : Int32), r = a1.toInt.toNat - j → j < 2 ^ 31 → (rj_R g RX12 cX12_mostOnStage 7 (some .int) wsX12_mostOnStage [] (rj_rm (3 + (n + 1)) 0) F 0 ω μ [(0, .ref (ω.2.2 395)), (1, .int a0), (2, .int a1), (3, .int a2), (4, .int (fX12_mostOnStage n μ a0 (a1 + 1) a2)), (5, .int ((rj_br (bX12_mostOnStage_47c n μ a0 a1 a2) r j s).2)), (6, .int (nI (rj_br (bX12_mostOnStage_47c n μ a0 a1 a2) r j s).1))] 90 []) → rj_R g RX12 cX12_mostOnStage 7 (some .int) wsX12_mostOnStage [] (rj_rm (3 + (n + 1)) 0) F 0 ω μ [(0, .ref (ω.2.2 395)), (1, .int a0), (2, .int a1), (3, .int a2), (4, .int (fX12_mostOnStage n μ a0 (a1 + 1) a2)), (5, .int s), (6, .int (nI j))] 47 [] := by
  intro r
  induction r with
  | zero =>
    intro j s hj hJ K
    have e0 : a1.toInt.toNat ≤ j := by omega
    have hge : a1 ≤ nI j := (rj_leN hJ).mpr e0
    refine rj_iload 6 dX12_mostOnStage_47 rfl rfl ?_
    refine rj_iload_n 2 dX12_mostOnStage_49 rfl rfl ?_
    refine rj_icmp_ge dX12_mostOnStage_50 rfl rfl (fun h20 => ?_) (fun h20 => ?_)
    · rw [rj_br_0] at K
      exact K
    · exact absurd hge h20
  | succ r ih =>
    intro j47 s47 hj hJ K
    have hl47 : j47 < a1.toInt.toNat := by omega
    have hg47 : ¬ a1 ≤ nI j47 := fun z => absurd ((rj_leN hJ).mp z) (by omega)
    have hN := rj_tN a1
    refine rj_iload 6 dX12_mostOnStage_47 rfl rfl ?_
    refine rj_iload_n 2 dX12_mostOnStage_49 rfl rfl ?_
    refine rj_icmp_ge dX12_mostOnStage_50 rfl rfl (fun h16 => ?_) (fun h16 => ?_)
    · exact absurd h16 hg47
    · refine rj_iload 5 dX12_mostOnStage_53 rfl rfl ?_
      refine rj_if_eq dX12_mostOnStage_55 rfl rfl (fun h17 => ?_) (fun h17 => ?_)
      · skip
        have e : bX12_mostOnStage_47c n μ a0 a1 a2 j47 s47 = .inr (j47, s47) := by unfold bX12_mostOnStage_47c; rw [if_pos h17]; try rfl
        exact rj_sub (l' := [(0, .ref (ω.2.2 395)), (1, .int a0), (2, .int a1), (3, .int a2), (4, .int (fX12_mostOnStage n μ a0 (a1 + 1) a2)), (5, .int s47), (6, .int (nI j47))]) [0, 1, 2, 3, 4, 5, 6] rfl (by rw [rj_br_r e] at K; exact K)
      · skip
        refine rj_iload_n 3 dX12_mostOnStage_58 rfl rfl ?_
        refine rj_iload 6 dX12_mostOnStage_59 rfl rfl ?_
        refine rj_ishr dX12_mostOnStage_61 rfl ?_
        refine rj_iconst (v := 1) dX12_mostOnStage_62 rfl (by decide) ?_
        refine rj_iand dX12_mostOnStage_63 rfl ?_
        refine rj_if_eq dX12_mostOnStage_64 rfl rfl (fun h18 => ?_) (fun h18 => ?_)
        · skip
          refine rj_iconst (v := 1) dX12_mostOnStage_77 rfl (by decide) ?_
          refine rj_goto dX12_mostOnStage_78 rfl ?_
          refine rj_istore (l' := [(5, .int 1), (0, .ref (ω.2.2 395)), (1, .int a0), (2, .int a1), (3, .int a2), (4, .int (fX12_mostOnStage n μ a0 (a1 + 1) a2)), (6, .int (nI j47))]) dX12_mostOnStage_82 rfl (rj_bl rfl) rfl ?_
          refine rj_iinc (v := nI (j47 + 1)) (l' := [(6, .int (nI (j47 + 1))), (5, .int 1), (0, .ref (ω.2.2 395)), (1, .int a0), (2, .int a1), (3, .int a2), (4, .int (fX12_mostOnStage n μ a0 (a1 + 1) a2))]) 6 dX12_mostOnStage_84 rfl rfl (nI_succ j47).symm (rj_bl rfl) rfl ?_
          refine rj_goto dX12_mostOnStage_87 rfl ?_
          have e : bX12_mostOnStage_47c n μ a0 a1 a2 j47 s47 = .inl 1 := by unfold bX12_mostOnStage_47c; rw [if_neg h17]; rw [if_pos h18]; try rfl
          exact rj_sub (l' := [(0, .ref (ω.2.2 395)), (1, .int a0), (2, .int a1), (3, .int a2), (4, .int (fX12_mostOnStage n μ a0 (a1 + 1) a2)), (5, .int 1), (6, .int (nI (j47 + 1)))]) [2, 3, 4, 5, 6, 1, 0] rfl (ih (j47 + 1) 1 (by omega) (by omega) (by rw [rj_br_l e] at K; exact K))
        · skip
          refine rj_aload_n 0 dX12_mostOnStage_67 rfl rfl ?_
          refine rj_iload 6 dX12_mostOnStage_68 rfl rfl ?_
          refine rj_iload_n 2 dX12_mostOnStage_70 rfl rfl ?_
          refine rj_cV (rest := []) (sX12_piecesMeet (g := g) (ω := ω) hω μ (nI j47) a1  (rj_ltin hl47 (rj_isAct h2) rfl) (rj_isAct h2) ) gX12_mostOnStage_X12_piecesMeet (rj_lt hω (k := 395) rfl) (rj_sh hω ly_395) rfl rfl hVX12_piecesMeet ⟨by omega, by omega⟩ dX12_mostOnStage_71 rfl rfl rfl (Nat.le_of_ble_eq_true rfl) rfl (Nat.le_of_ble_eq_true rfl) rfl ?_
          refine rj_if_ne dX12_mostOnStage_74 rfl rfl (fun h19 => ?_) (fun h19 => ?_)
          · skip
            refine rj_iconst (v := 0) dX12_mostOnStage_81 rfl (by decide) ?_
            refine rj_istore (l' := [(5, .int 0), (0, .ref (ω.2.2 395)), (1, .int a0), (2, .int a1), (3, .int a2), (4, .int (fX12_mostOnStage n μ a0 (a1 + 1) a2)), (6, .int (nI j47))]) dX12_mostOnStage_82 rfl (rj_bl rfl) rfl ?_
            refine rj_iinc (v := nI (j47 + 1)) (l' := [(6, .int (nI (j47 + 1))), (5, .int 0), (0, .ref (ω.2.2 395)), (1, .int a0), (2, .int a1), (3, .int a2), (4, .int (fX12_mostOnStage n μ a0 (a1 + 1) a2))]) 6 dX12_mostOnStage_84 rfl rfl (nI_succ j47).symm (rj_bl rfl) rfl ?_
            refine rj_goto dX12_mostOnStage_87 rfl ?_
            have e : bX12_mostOnStage_47c n μ a0 a1 a2 j47 s47 = .inl 0 := by unfold bX12_mostOnStage_47c; rw [if_neg h17]; rw [if_neg h18]; rw [if_neg h19]; try rfl
            exact rj_sub (l' := [(0, .ref (ω.2.2 395)), (1, .int a0), (2, .int a1), (3, .int a2), (4, .int (fX12_mostOnStage n μ a0 (a1 + 1) a2)), (5, .int 0), (6, .int (nI (j47 + 1)))]) [2, 3, 4, 5, 6, 1, 0] rfl (ih (j47 + 1) 0 (by omega) (by omega) (by rw [rj_br_l e] at K; exact K))
          · skip
            refine rj_iconst (v := 1) dX12_mostOnStage_77 rfl (by decide) ?_
            refine rj_goto dX12_mostOnStage_78 rfl ?_
            refine rj_istore (l' := [(5, .int 1), (0, .ref (ω.2.2 395)), (1, .int a0), (2, .int a1), (3, .int a2), (4, .int (fX12_mostOnStage n μ a0 (a1 + 1) a2)), (6, .int (nI j47))]) dX12_mostOnStage_82 rfl (rj_bl rfl) rfl ?_
            refine rj_iinc (v := nI (j47 + 1)) (l' := [(6, .int (nI (j47 + 1))), (5, .int 1), (0, .ref (ω.2.2 395)), (1, .int a0), (2, .int a1), (3, .int a2), (4, .int (fX12_mostOnStage n μ a0 (a1 + 1) a2))]) 6 dX12_mostOnStage_84 rfl rfl (nI_succ j47).symm (rj_bl rfl) rfl ?_
            refine rj_goto dX12_mostOnStage_87 rfl ?_
            have e : bX12_mostOnStage_47c n μ a0 a1 a2 j47 s47 = .inl 1 := by unfold bX12_mostOnStage_47c; rw [if_neg h17]; rw [if_neg h18]; rw [if_pos h19]; try rfl
            exact rj_sub (l' := [(0, .ref (ω.2.2 395)), (1, .int a0), (2, .int a1), (3, .int a2), (4, .int (fX12_mostOnStage n μ a0 (a1 + 1) a2)), (5, .int 1), (6, .int (nI (j47 + 1)))]) [2, 3, 4, 5, 6, 1, 0] rfl (ih (j47 + 1) 1 (by omega) (by omega) (by rw [rj_br_l e] at K; exact K))
set_option maxHeartbeats 40000000 in
set_option maxRecDepth 100000 in
theorem sX12_mostOnStage {g : rj_G} {ω : rj_W} (hω : rj_ok ω) : ∀ (n : Nat) (μ : rj_M) (a0 : Int32) (a1 : Int32) (a2 : Int32), vp_in a1 17 → qX12_mostOnStage n μ a0 a1 a2 → rj_Sp g yX12_mostOnStage wsX12_mostOnStage (rj_rm (3 + n) 0) [.ref (ω.2.2 395), .int a0, .int a1, .int a2] ω μ (rj_D (.inl (some (.int (fX12_mostOnStage n μ a0 a1 a2)))) ω μ) := by
  intro n
  induction n with
  | zero =>
    intro μ a0 a1 a2 hp_a1 hq
    exact hq.elim
  | succ n ih =>
    intro μ a0 a1 a2 hp_a1 hq
    have hqa := hq
    rw [qX12_mostOnStage_s] at hqa
    refine rj_of' (cc := cX12_mostOnStage) (nL := 7) (ret := (some .int)) (own := RX12) (l0 := [(0, .ref (ω.2.2 395)), (1, .int a0), (2, .int a1), (3, .int a2)]) rfl (by decide +kernel) rfl (Nat.le_of_ble_eq_true rfl) rfl ?_
    refine rj_iload_n 2 dX12_mostOnStage_0 rfl rfl ?_
    refine rj_bipush (v := 16) dX12_mostOnStage_1 rfl (by decide) ?_
    refine rj_icmp_ne dX12_mostOnStage_3 rfl rfl (fun h1 => ?_) (fun h1 => ?_)
    · have hq1 := (And.right hqa) h1
      refine rj_aload_n 0 dX12_mostOnStage_8 rfl rfl ?_
      refine rj_iload_n 1 dX12_mostOnStage_9 rfl rfl ?_
      refine rj_iload_n 2 dX12_mostOnStage_10 rfl rfl ?_
      refine rj_iconst (v := 1) dX12_mostOnStage_11 rfl (by decide) ?_
      refine rj_iadd dX12_mostOnStage_12 rfl ?_
      refine rj_iload_n 3 dX12_mostOnStage_13 rfl rfl ?_
      refine rj_cV (rest := []) (ih μ a0 (a1 + 1) a2 (rj_vle (rj_vadd (N := 17) (rj_lt17 hp_a1 h1) (vp_in_nI (n := 1) (N := 2) (rj_bl rfl) (rj_bl rfl)) rfl rfl) rfl) (And.left hq1)) gX12_mostOnStage_X12_mostOnStage (rj_lt hω (k := 395) rfl) (rj_sh hω ly_395) rfl rfl hVX12_mostOnStage ⟨by omega, by omega⟩ dX12_mostOnStage_14 rfl rfl rfl (Nat.le_of_ble_eq_true rfl) rfl (Nat.le_of_ble_eq_true rfl) rfl ?_
      refine rj_istore (l' := [(4, .int (fX12_mostOnStage n μ a0 (a1 + 1) a2)), (0, .ref (ω.2.2 395)), (1, .int a0), (2, .int a1), (3, .int a2)]) dX12_mostOnStage_17 rfl (rj_bl rfl) rfl ?_
      refine rj_aload_n 1 dX12_mostOnStage_19 rfl rfl ?_
      refine rj_iload_n 3 dX12_mostOnStage_20 rfl rfl ?_
      refine rj_cV (rest := []) (sX12_isAct (g := g) (ω := ω) hω μ a1   ) gX12_mostOnStage_X12_isAct (rj_lt hω (k := 395) rfl) (rj_sh hω ly_395) rfl rfl hVX12_isAct ⟨by omega, by omega⟩ dX12_mostOnStage_21 rfl rfl rfl (Nat.le_of_ble_eq_true rfl) rfl (Nat.le_of_ble_eq_true rfl) rfl ?_
      refine rj_if_eq dX12_mostOnStage_24 rfl rfl (fun h2 => ?_) (fun h2 => ?_)
      · have hq2 := (And.left (And.right hq1)) h2
        refine rj_iconst (v := 0) dX12_mostOnStage_41 rfl (by decide) ?_
        refine rj_istore (l' := [(5, .int 0), (4, .int (fX12_mostOnStage n μ a0 (a1 + 1) a2)), (0, .ref (ω.2.2 395)), (1, .int a0), (2, .int a1), (3, .int a2)]) dX12_mostOnStage_42 rfl (rj_bl rfl) rfl ?_
        refine rj_iconst (v := 0) dX12_mostOnStage_44 rfl (by decide) ?_
        refine rj_istore (l' := [(6, .int 0), (5, .int 0), (4, .int (fX12_mostOnStage n μ a0 (a1 + 1) a2)), (0, .ref (ω.2.2 395)), (1, .int a0), (2, .int a1), (3, .int a2)]) dX12_mostOnStage_45 rfl (rj_bl rfl) rfl ?_
        refine rj_sub (l' := [(0, .ref (ω.2.2 395)), (1, .int a0), (2, .int a1), (3, .int a2), (4, .int (fX12_mostOnStage n μ a0 (a1 + 1) a2)), (5, .int 0), (6, .int (nI 0))]) [3, 4, 5, 6, 2, 1, 0] rfl ?_
        refine lX12_mostOnStage_47 hω n μ a0 a1 a2     hp_a1 h1 h2 (a1.toInt.toNat - 0) 0 0 rfl (rj_bl rfl) ?_
        refine rj_iload 5 dX12_mostOnStage_90 rfl rfl ?_
        refine rj_if_eq dX12_mostOnStage_92 rfl rfl (fun h8 => ?_) (fun h8 => ?_)
        · skip
          refine rj_iload 4 dX12_mostOnStage_122 rfl rfl ?_
          exact rj_iret dX12_mostOnStage_124 rfl (Nat.le_of_ble_eq_true rfl) (Nat.le_of_ble_eq_true rfl) ⟨(by rw [fX12_mostOnStage_s]; rw [if_neg h1]; rw [if_pos h2]; rw [if_pos h8]; try rfl), rfl, rfl⟩
        · have hq10 := (And.right hq2) h8
          refine rj_iload 4 dX12_mostOnStage_95 rfl rfl ?_
          refine rj_aload_n 0 dX12_mostOnStage_97 rfl rfl ?_
          refine rj_iload_n 2 dX12_mostOnStage_98 rfl rfl ?_
          refine rj_cV (rest := [.int (fX12_mostOnStage n μ a0 (a1 + 1) a2)]) (sX12_pleases (g := g) (ω := ω) hω μ a1  (rj_lt17 hp_a1 h1) ) gX12_mostOnStage_X12_pleases (rj_lt hω (k := 395) rfl) (rj_sh hω ly_395) rfl rfl hVX12_pleases ⟨by omega, by omega⟩ dX12_mostOnStage_99 rfl rfl rfl (Nat.le_of_ble_eq_true rfl) rfl (Nat.le_of_ble_eq_true rfl) rfl ?_
          refine rj_aload_n 0 dX12_mostOnStage_102 rfl rfl ?_
          refine rj_iload_n 1 dX12_mostOnStage_103 rfl rfl ?_
          refine rj_iload_n 2 dX12_mostOnStage_104 rfl rfl ?_
          refine rj_iconst (v := 1) dX12_mostOnStage_105 rfl (by decide) ?_
          refine rj_iadd dX12_mostOnStage_106 rfl ?_
          refine rj_iload_n 3 dX12_mostOnStage_107 rfl rfl ?_
          refine rj_iconst (v := 1) dX12_mostOnStage_108 rfl (by decide) ?_
          refine rj_iload_n 2 dX12_mostOnStage_109 rfl rfl ?_
          refine rj_ishl dX12_mostOnStage_110 rfl ?_
          refine rj_ior dX12_mostOnStage_111 rfl ?_
          refine rj_cV (rest := [.int (fX12_pleases μ a1), .int (fX12_mostOnStage n μ a0 (a1 + 1) a2)]) (ih μ a0 (a1 + 1) (a2 ||| (1 <<< (a1 &&& 31))) (rj_vle (rj_vadd (N := 17) (rj_lt17 hp_a1 h1) (vp_in_nI (n := 1) (N := 2) (rj_bl rfl) (rj_bl rfl)) rfl rfl) rfl) (And.left hq10)) gX12_mostOnStage_X12_mostOnStage (rj_lt hω (k := 395) rfl) (rj_sh hω ly_395) rfl rfl hVX12_mostOnStage ⟨by omega, by omega⟩ dX12_mostOnStage_112 rfl rfl rfl (Nat.le_of_ble_eq_true rfl) rfl (Nat.le_of_ble_eq_true rfl) rfl ?_
          refine rj_iadd dX12_mostOnStage_115 rfl ?_
          refine rj_mmax dX12_mostOnStage_116 rfl jX12_mostOnStage_140_0 jX12_mostOnStage_140_1 jX12_mostOnStage_140_2 jX12_mostOnStage_140_3 (Nat.le_of_ble_eq_true rfl) (Nat.le_of_ble_eq_true rfl) (Nat.le_of_ble_eq_true rfl) (Nat.le_of_ble_eq_true rfl) ?_
          refine rj_goto dX12_mostOnStage_119 rfl ?_
          exact rj_iret dX12_mostOnStage_124 rfl (Nat.le_of_ble_eq_true rfl) (Nat.le_of_ble_eq_true rfl) ⟨(by rw [fX12_mostOnStage_s]; rw [if_neg h1]; rw [if_pos h2]; rw [if_neg h8]; try rfl), rfl, rfl⟩
      · have hq11 := (And.right (And.right hq1)) h2
        refine rj_aload_n 1 dX12_mostOnStage_27 rfl rfl ?_
        refine rj_iload_n 3 dX12_mostOnStage_28 rfl rfl ?_
        refine rj_iconst (v := 1) dX12_mostOnStage_29 rfl (by decide) ?_
        refine rj_cV (rest := []) (sX12_its (g := g) (ω := ω) hω μ a1 1  (rj_isAct h2) (vp_in_nI (n := 1) (rj_bl rfl) (rj_bl rfl)) ) gX12_mostOnStage_X12_its (rj_lt hω (k := 395) rfl) (rj_sh hω ly_395) rfl rfl hVX12_its ⟨by omega, by omega⟩ dX12_mostOnStage_30 rfl rfl rfl (Nat.le_of_ble_eq_true rfl) rfl (Nat.le_of_ble_eq_true rfl) rfl ?_
        refine rj_iload_n 2 dX12_mostOnStage_33 rfl rfl ?_
        refine rj_icmp_ne dX12_mostOnStage_34 rfl rfl (fun h9 => ?_) (fun h9 => ?_)
        · have hq12 := (And.right hq11) h9
          refine rj_iconst (v := 0) dX12_mostOnStage_41 rfl (by decide) ?_
          refine rj_istore (l' := [(5, .int 0), (4, .int (fX12_mostOnStage n μ a0 (a1 + 1) a2)), (0, .ref (ω.2.2 395)), (1, .int a0), (2, .int a1), (3, .int a2)]) dX12_mostOnStage_42 rfl (rj_bl rfl) rfl ?_
          refine rj_iconst (v := 0) dX12_mostOnStage_44 rfl (by decide) ?_
          refine rj_istore (l' := [(6, .int 0), (5, .int 0), (4, .int (fX12_mostOnStage n μ a0 (a1 + 1) a2)), (0, .ref (ω.2.2 395)), (1, .int a0), (2, .int a1), (3, .int a2)]) dX12_mostOnStage_45 rfl (rj_bl rfl) rfl ?_
          refine rj_sub (l' := [(0, .ref (ω.2.2 395)), (1, .int a0), (2, .int a1), (3, .int a2), (4, .int (fX12_mostOnStage n μ a0 (a1 + 1) a2)), (5, .int 0), (6, .int (nI 0))]) [3, 4, 5, 6, 2, 1, 0] rfl ?_
          refine lX12_mostOnStage_47b hω n μ a0 a1 a2     hp_a1 h1 h2 h9 (a1.toInt.toNat - 0) 0 0 rfl (rj_bl rfl) ?_
          refine rj_iload 5 dX12_mostOnStage_90 rfl rfl ?_
          refine rj_if_eq dX12_mostOnStage_92 rfl rfl (fun h15 => ?_) (fun h15 => ?_)
          · skip
            refine rj_iload 4 dX12_mostOnStage_122 rfl rfl ?_
            exact rj_iret dX12_mostOnStage_124 rfl (Nat.le_of_ble_eq_true rfl) (Nat.le_of_ble_eq_true rfl) ⟨(by rw [fX12_mostOnStage_s]; rw [if_neg h1]; rw [if_neg h2]; rw [if_neg h9]; rw [if_pos h15]; try rfl), rfl, rfl⟩
          · have hq20 := (And.right hq12) h15
            refine rj_iload 4 dX12_mostOnStage_95 rfl rfl ?_
            refine rj_aload_n 0 dX12_mostOnStage_97 rfl rfl ?_
            refine rj_iload_n 2 dX12_mostOnStage_98 rfl rfl ?_
            refine rj_cV (rest := [.int (fX12_mostOnStage n μ a0 (a1 + 1) a2)]) (sX12_pleases (g := g) (ω := ω) hω μ a1  (rj_isAct h2) ) gX12_mostOnStage_X12_pleases (rj_lt hω (k := 395) rfl) (rj_sh hω ly_395) rfl rfl hVX12_pleases ⟨by omega, by omega⟩ dX12_mostOnStage_99 rfl rfl rfl (Nat.le_of_ble_eq_true rfl) rfl (Nat.le_of_ble_eq_true rfl) rfl ?_
            refine rj_aload_n 0 dX12_mostOnStage_102 rfl rfl ?_
            refine rj_iload_n 1 dX12_mostOnStage_103 rfl rfl ?_
            refine rj_iload_n 2 dX12_mostOnStage_104 rfl rfl ?_
            refine rj_iconst (v := 1) dX12_mostOnStage_105 rfl (by decide) ?_
            refine rj_iadd dX12_mostOnStage_106 rfl ?_
            refine rj_iload_n 3 dX12_mostOnStage_107 rfl rfl ?_
            refine rj_iconst (v := 1) dX12_mostOnStage_108 rfl (by decide) ?_
            refine rj_iload_n 2 dX12_mostOnStage_109 rfl rfl ?_
            refine rj_ishl dX12_mostOnStage_110 rfl ?_
            refine rj_ior dX12_mostOnStage_111 rfl ?_
            refine rj_cV (rest := [.int (fX12_pleases μ a1), .int (fX12_mostOnStage n μ a0 (a1 + 1) a2)]) (ih μ a0 (a1 + 1) (a2 ||| (1 <<< (a1 &&& 31))) (rj_vle (rj_vadd (N := 17) (rj_isAct h2) (vp_in_nI (n := 1) (N := 2) (rj_bl rfl) (rj_bl rfl)) rfl rfl) rfl) (And.left hq20)) gX12_mostOnStage_X12_mostOnStage (rj_lt hω (k := 395) rfl) (rj_sh hω ly_395) rfl rfl hVX12_mostOnStage ⟨by omega, by omega⟩ dX12_mostOnStage_112 rfl rfl rfl (Nat.le_of_ble_eq_true rfl) rfl (Nat.le_of_ble_eq_true rfl) rfl ?_
            refine rj_iadd dX12_mostOnStage_115 rfl ?_
            refine rj_mmax dX12_mostOnStage_116 rfl jX12_mostOnStage_140_0 jX12_mostOnStage_140_1 jX12_mostOnStage_140_2 jX12_mostOnStage_140_3 (Nat.le_of_ble_eq_true rfl) (Nat.le_of_ble_eq_true rfl) (Nat.le_of_ble_eq_true rfl) (Nat.le_of_ble_eq_true rfl) ?_
            refine rj_goto dX12_mostOnStage_119 rfl ?_
            exact rj_iret dX12_mostOnStage_124 rfl (Nat.le_of_ble_eq_true rfl) (Nat.le_of_ble_eq_true rfl) ⟨(by rw [fX12_mostOnStage_s]; rw [if_neg h1]; rw [if_neg h2]; rw [if_neg h9]; rw [if_neg h15]; try rfl), rfl, rfl⟩
        · have hq21 := (And.left hq11) h9
          refine rj_iconst (v := 1) dX12_mostOnStage_37 rfl (by decide) ?_
          refine rj_goto dX12_mostOnStage_38 rfl ?_
          refine rj_istore (l' := [(5, .int 1), (4, .int (fX12_mostOnStage n μ a0 (a1 + 1) a2)), (0, .ref (ω.2.2 395)), (1, .int a0), (2, .int a1), (3, .int a2)]) dX12_mostOnStage_42 rfl (rj_bl rfl) rfl ?_
          refine rj_iconst (v := 0) dX12_mostOnStage_44 rfl (by decide) ?_
          refine rj_istore (l' := [(6, .int 0), (5, .int 1), (4, .int (fX12_mostOnStage n μ a0 (a1 + 1) a2)), (0, .ref (ω.2.2 395)), (1, .int a0), (2, .int a1), (3, .int a2)]) dX12_mostOnStage_45 rfl (rj_bl rfl) rfl ?_
          refine rj_sub (l' := [(0, .ref (ω.2.2 395)), (1, .int a0), (2, .int a1), (3, .int a2), (4, .int (fX12_mostOnStage n μ a0 (a1 + 1) a2)), (5, .int 1), (6, .int (nI 0))]) [3, 4, 5, 6, 2, 1, 0] rfl ?_
          refine lX12_mostOnStage_47c hω n μ a0 a1 a2     hp_a1 h1 h2 h9 (a1.toInt.toNat - 0) 0 1 rfl (rj_bl rfl) ?_
          refine rj_iload 5 dX12_mostOnStage_90 rfl rfl ?_
          refine rj_if_eq dX12_mostOnStage_92 rfl rfl (fun h21 => ?_) (fun h21 => ?_)
          · skip
            refine rj_iload 4 dX12_mostOnStage_122 rfl rfl ?_
            exact rj_iret dX12_mostOnStage_124 rfl (Nat.le_of_ble_eq_true rfl) (Nat.le_of_ble_eq_true rfl) ⟨(by rw [fX12_mostOnStage_s]; rw [if_neg h1]; rw [if_neg h2]; rw [if_pos h9]; rw [if_pos h21]; try rfl), rfl, rfl⟩
          · have hq29 := (And.right hq21) h21
            refine rj_iload 4 dX12_mostOnStage_95 rfl rfl ?_
            refine rj_aload_n 0 dX12_mostOnStage_97 rfl rfl ?_
            refine rj_iload_n 2 dX12_mostOnStage_98 rfl rfl ?_
            refine rj_cV (rest := [.int (fX12_mostOnStage n μ a0 (a1 + 1) a2)]) (sX12_pleases (g := g) (ω := ω) hω μ a1  (rj_isAct h2) ) gX12_mostOnStage_X12_pleases (rj_lt hω (k := 395) rfl) (rj_sh hω ly_395) rfl rfl hVX12_pleases ⟨by omega, by omega⟩ dX12_mostOnStage_99 rfl rfl rfl (Nat.le_of_ble_eq_true rfl) rfl (Nat.le_of_ble_eq_true rfl) rfl ?_
            refine rj_aload_n 0 dX12_mostOnStage_102 rfl rfl ?_
            refine rj_iload_n 1 dX12_mostOnStage_103 rfl rfl ?_
            refine rj_iload_n 2 dX12_mostOnStage_104 rfl rfl ?_
            refine rj_iconst (v := 1) dX12_mostOnStage_105 rfl (by decide) ?_
            refine rj_iadd dX12_mostOnStage_106 rfl ?_
            refine rj_iload_n 3 dX12_mostOnStage_107 rfl rfl ?_
            refine rj_iconst (v := 1) dX12_mostOnStage_108 rfl (by decide) ?_
            refine rj_iload_n 2 dX12_mostOnStage_109 rfl rfl ?_
            refine rj_ishl dX12_mostOnStage_110 rfl ?_
            refine rj_ior dX12_mostOnStage_111 rfl ?_
            refine rj_cV (rest := [.int (fX12_pleases μ a1), .int (fX12_mostOnStage n μ a0 (a1 + 1) a2)]) (ih μ a0 (a1 + 1) (a2 ||| (1 <<< (a1 &&& 31))) (rj_vle (rj_vadd (N := 17) (rj_isAct h2) (vp_in_nI (n := 1) (N := 2) (rj_bl rfl) (rj_bl rfl)) rfl rfl) rfl) (And.left hq29)) gX12_mostOnStage_X12_mostOnStage (rj_lt hω (k := 395) rfl) (rj_sh hω ly_395) rfl rfl hVX12_mostOnStage ⟨by omega, by omega⟩ dX12_mostOnStage_112 rfl rfl rfl (Nat.le_of_ble_eq_true rfl) rfl (Nat.le_of_ble_eq_true rfl) rfl ?_
            refine rj_iadd dX12_mostOnStage_115 rfl ?_
            refine rj_mmax dX12_mostOnStage_116 rfl jX12_mostOnStage_140_0 jX12_mostOnStage_140_1 jX12_mostOnStage_140_2 jX12_mostOnStage_140_3 (Nat.le_of_ble_eq_true rfl) (Nat.le_of_ble_eq_true rfl) (Nat.le_of_ble_eq_true rfl) (Nat.le_of_ble_eq_true rfl) ?_
            refine rj_goto dX12_mostOnStage_119 rfl ?_
            exact rj_iret dX12_mostOnStage_124 rfl (Nat.le_of_ble_eq_true rfl) (Nat.le_of_ble_eq_true rfl) ⟨(by rw [fX12_mostOnStage_s]; rw [if_neg h1]; rw [if_neg h2]; rw [if_pos h9]; rw [if_neg h21]; try rfl), rfl, rfl⟩
    · skip
      refine rj_iconst (v := 0) dX12_mostOnStage_6 rfl (by decide) ?_
      exact rj_iret dX12_mostOnStage_7 rfl (Nat.le_of_ble_eq_true rfl) (Nat.le_of_ble_eq_true rfl) ⟨(by rw [fX12_mostOnStage_s]; rw [if_pos h1]; try rfl), rfl, rfl⟩
theorem sX12_mostOnStageF {g : rj_G} {ω : rj_W} (hω : rj_ok ω) (μ : rj_M) (a0 : Int32) (a1 : Int32) (a2 : Int32) (hp_a1 : vp_in a1 17) (hq : qX12_mostOnStage rz17 μ a0 a1 a2) : rj_Sp g yX12_mostOnStage wsX12_mostOnStage (rj_rm 20 0) [.ref (ω.2.2 395), .int a0, .int a1, .int a2] ω μ (rj_D (.inl (some (.int (fX12_mostOnStage rz17 μ a0 a1 a2)))) ω μ) := by
  have h := sX12_mostOnStage (g := g) (ω := ω) hω rz17 μ a0 a1 a2 hp_a1 hq
  rw [show 3 + rz17 = 20 from by rw [rz17_eq]] at h
  exact h
theorem hSX12_bound : yX12_bound.cls ≠ "java/lang/invoke/MethodHandle" ∧ yX12_bound.cls ≠ "java/lang/invoke/VarHandle" ∧ (parseMethodDescriptor yX12_bound.desc).map (fun d => d.parameters.length) = some 0 := by decide +kernel
theorem hVX12_bound : yX12_bound.cls = RX12 ∧ yX12_bound.cls ≠ "java/lang/invoke/MethodHandle" ∧ yX12_bound.cls ≠ "java/lang/invoke/VarHandle" ∧ (parseMethodDescriptor yX12_bound.desc).map (fun d => d.parameters.length) = some 0 := by decide +kernel
noncomputable def bX12_bound_4 (μ : rj_M) (j4 : Nat) (s4 : Int32) : Int32 := (s4 + (fX12_mostOnStage rz17 μ (nI j4) 0 0))
noncomputable def qX12_bound_4 (μ : rj_M) (j4 : Nat) (s4 : Int32) : Prop := (qX12_mostOnStage rz17 μ (nI j4) 0 0 ∧ True)
set_option maxHeartbeats 4000000 in
set_option maxRecDepth 100000 in
theorem lX12_bound_4 {g : rj_G} {ω : rj_W} (hω : rj_ok ω) (μ : rj_M)      {F : rj_F} : ∀ (r j : Nat) (s : Int32), j + r = 4 → (True → ra_fo (qX12_bound_4 μ) (bX12_bound_4 μ) r j s) → (rj_R g RX12 cX12_bound 3 (some .int) wsX12_bound [] (rj_rm 21 0) F 0 ω μ [(0, .ref (ω.2.2 395)), (1, .int (rj_fo (bX12_bound_4 μ) r j s)), (2, .int (nI 4))] 25 []) → rj_R g RX12 cX12_bound 3 (some .int) wsX12_bound [] (rj_rm 21 0) F 0 ω μ [(0, .ref (ω.2.2 395)), (1, .int s), (2, .int (nI j))] 4 [] := by
  intro r
  induction r with
  | zero =>
    intro j s hj hq0 K
    have e0 : j = 4 := by omega
    have hge : 4 ≤ nI j := by
      rw [e0]
      exact Int32.le_refl _
    refine rj_iload_n 2 dX12_bound_4 rfl rfl ?_
    refine rj_iconst (v := 4) dX12_bound_5 rfl (by decide) ?_
    refine rj_icmp_ge dX12_bound_6 rfl rfl (fun h2 => ?_) (fun h2 => ?_)
    · have e1 : nI j = nI 4 := by rw [e0]
      rw [e1]
      exact K
    · exact absurd hge h2
  | succ r ih =>
    intro j4 s4 hj hq0 K
    have hl4 : j4 < 4 := by omega
    have hg4 : ¬ 4 ≤ nI j4 := nI_ge hl4 (rj_bl rfl)
    have hqa := ra_fo_q (hq0 True.intro)
    unfold qX12_bound_4 at hqa
    refine rj_iload_n 2 dX12_bound_4 rfl rfl ?_
    refine rj_iconst (v := 4) dX12_bound_5 rfl (by decide) ?_
    refine rj_icmp_ge dX12_bound_6 rfl rfl (fun h1 => ?_) (fun h1 => ?_)
    · exact absurd h1 hg4
    · refine rj_iload_n 1 dX12_bound_9 rfl rfl ?_
      refine rj_aload_n 0 dX12_bound_10 rfl rfl ?_
      refine rj_iload_n 2 dX12_bound_11 rfl rfl ?_
      refine rj_iconst (v := 0) dX12_bound_12 rfl (by decide) ?_
      refine rj_iconst (v := 0) dX12_bound_13 rfl (by decide) ?_
      refine rj_cV (rest := [.int s4]) (sX12_mostOnStageF (g := g) (ω := ω) hω μ (nI j4) 0 0  (vp_in_nI (n := 0) (rj_bl rfl) (rj_bl rfl)) (And.left hqa)) gX12_bound_X12_mostOnStage (rj_lt hω (k := 395) rfl) (rj_sh hω ly_395) rfl rfl hVX12_mostOnStage ⟨Nat.le_of_ble_eq_true rfl, Nat.le_of_ble_eq_true rfl⟩ dX12_bound_14 rfl rfl rfl (Nat.le_of_ble_eq_true rfl) rfl (Nat.le_of_ble_eq_true rfl) rfl ?_
      refine rj_iadd dX12_bound_17 rfl ?_
      refine rj_istore_n (l' := [(1, .int (s4 + (fX12_mostOnStage rz17 μ (nI j4) 0 0))), (0, .ref (ω.2.2 395)), (2, .int (nI j4))]) dX12_bound_18 rfl (rj_bl rfl) rfl ?_
      refine rj_iinc (v := nI (j4 + 1)) (l' := [(2, .int (nI (j4 + 1))), (1, .int (s4 + (fX12_mostOnStage rz17 μ (nI j4) 0 0))), (0, .ref (ω.2.2 395))]) 2 dX12_bound_19 rfl rfl (nI_succ j4).symm (rj_bl rfl) rfl ?_
      refine rj_goto dX12_bound_22 rfl ?_
      have e : bX12_bound_4 μ j4 s4 = (s4 + (fX12_mostOnStage rz17 μ (nI j4) 0 0)) := by unfold bX12_bound_4; rfl
      exact rj_sub (l' := [(0, .ref (ω.2.2 395)), (1, .int (s4 + (fX12_mostOnStage rz17 μ (nI j4) 0 0))), (2, .int (nI (j4 + 1)))]) [2, 1, 0] rfl (ih (j4 + 1) (s4 + (fX12_mostOnStage rz17 μ (nI j4) 0 0)) (by omega) (fun _ => ra_fo_n (hq0 True.intro) e) (by rw [rj_fo_s, e] at K; exact K))
noncomputable def fX12_bound (μ : rj_M) : Int32 := (rj_fo (bX12_bound_4 μ) 4 0 0)
noncomputable def qX12_bound (μ : rj_M) : Prop := ((True → ra_fo (qX12_bound_4 μ) (bX12_bound_4 μ) 4 0 0) ∧ True)
set_option maxHeartbeats 40000000 in
set_option maxRecDepth 100000 in
theorem sX12_bound {g : rj_G} {ω : rj_W} (hω : rj_ok ω) (μ : rj_M)   (hq : qX12_bound μ) : rj_Sp g yX12_bound wsX12_bound (rj_rm 21 0) [.ref (ω.2.2 395)] ω μ (rj_D (.inl (some (.int (fX12_bound μ)))) ω μ) := by
  have hqa := hq
  unfold qX12_bound at hqa
  refine rj_of' (cc := cX12_bound) (nL := 3) (ret := (some .int)) (own := RX12) (l0 := [(0, .ref (ω.2.2 395))]) rfl (by decide +kernel) rfl (Nat.le_of_ble_eq_true rfl) rfl ?_
  refine rj_iconst (v := 0) dX12_bound_0 rfl (by decide) ?_
  refine rj_istore_n (l' := [(1, .int 0), (0, .ref (ω.2.2 395))]) dX12_bound_1 rfl (rj_bl rfl) rfl ?_
  refine rj_iconst (v := 0) dX12_bound_2 rfl (by decide) ?_
  refine rj_istore_n (l' := [(2, .int 0), (1, .int 0), (0, .ref (ω.2.2 395))]) dX12_bound_3 rfl (rj_bl rfl) rfl ?_
  refine rj_sub (l' := [(0, .ref (ω.2.2 395)), (1, .int 0), (2, .int (nI 0))]) [2, 1, 0] rfl ?_
  refine lX12_bound_4 hω μ      4 0 0 rfl (And.left hqa) ?_
  refine rj_iload_n 1 dX12_bound_25 rfl rfl ?_
  exact rj_iret dX12_bound_26 rfl (Nat.le_of_ble_eq_true rfl) (Nat.le_of_ble_eq_true rfl) ⟨(by unfold fX12_bound; rfl), rfl, rfl⟩
