theorem hSX12_firstIn : yX12_firstIn.cls ≠ "java/lang/invoke/MethodHandle" ∧ yX12_firstIn.cls ≠ "java/lang/invoke/VarHandle" ∧ (parseMethodDescriptor yX12_firstIn.desc).map (fun d => d.parameters.length) = some 3 := by decide +kernel
theorem hVX12_firstIn : yX12_firstIn.cls = RX12 ∧ yX12_firstIn.cls ≠ "java/lang/invoke/MethodHandle" ∧ yX12_firstIn.cls ≠ "java/lang/invoke/VarHandle" ∧ (parseMethodDescriptor yX12_firstIn.desc).map (fun d => d.parameters.length) = some 3 := by decide +kernel
noncomputable def bX12_firstIn_37 (μ : rj_M) (a0 : Int32) (a1 : Int32) (a2 : Int32) (j37 : Nat) (s37 : Int32) : Int32 := (if (fX12_isAct (mX12_lacks μ (fX12_isStage μ a0)) (nI j37)) = 0 then s37 else (if (fX12_its (mX12_lacks μ (fX12_isStage μ a0)) (nI j37) 1) = a0 then (if (fX12_its (mX12_lacks μ (fX12_isStage μ a0)) (nI j37) 2) < a1 then s37 else (if (fX12_its (mX12_lacks μ (fX12_isStage μ a0)) (nI j37) 2) < a2 then (if s37 = (-1) then (nI j37) else (if (fX12_its (mX12_lacks μ (fX12_isStage μ a0)) s37 2) ≤ (fX12_its (mX12_lacks μ (fX12_isStage μ a0)) (nI j37) 2) then s37 else (nI j37))) else s37)) else s37))
noncomputable def qX12_firstIn_37 (μ : rj_M) (a0 : Int32) (a1 : Int32) (a2 : Int32) (j37 : Nat) (s37 : Int32) : Prop := ((((fX12_isAct (mX12_lacks μ (fX12_isStage μ a0)) (nI j37)) = 0) → True) ∧ ((¬ ((fX12_isAct (mX12_lacks μ (fX12_isStage μ a0)) (nI j37)) = 0)) → ((((fX12_its (mX12_lacks μ (fX12_isStage μ a0)) (nI j37) 1) = a0) → ((((fX12_its (mX12_lacks μ (fX12_isStage μ a0)) (nI j37) 2) < a1) → True) ∧ ((¬ ((fX12_its (mX12_lacks μ (fX12_isStage μ a0)) (nI j37) 2) < a1)) → ((((fX12_its (mX12_lacks μ (fX12_isStage μ a0)) (nI j37) 2) < a2) → (((s37 = (-1)) → True) ∧ ((¬ (s37 = (-1))) → (vp_in s37 16 ∧ True)))) ∧ ((¬ ((fX12_its (mX12_lacks μ (fX12_isStage μ a0)) (nI j37) 2) < a2)) → True))))) ∧ ((¬ ((fX12_its (mX12_lacks μ (fX12_isStage μ a0)) (nI j37) 1) = a0)) → True))))
set_option maxHeartbeats 4000000 in
set_option maxRecDepth 100000 in
theorem lX12_firstIn_37 {g : rj_G} {ω : rj_W} (hω : rj_ok ω) (μ : rj_M) (a0 : Int32) (a1 : Int32) (a2 : Int32)     (h1 : ((fX12_lacks μ (fX12_isStage μ a0)) = 0)) (h2 : ¬ (a2 < a1)) {F : rj_F} : ∀ (r j : Nat) (s : Int32), j + r = 16 → (True → ra_fo (qX12_firstIn_37 μ a0 a1 a2) (bX12_firstIn_37 μ a0 a1 a2) r j s) → (rj_R g RX12 cX12_firstIn 6 (some .int) wsX12_firstIn [] (rj_rm 2 0) F 0 ω (mX12_lacks μ (fX12_isStage μ a0)) [(0, .ref (ω.2.2 395)), (1, .int a0), (2, .int a1), (3, .int a2), (4, .int (rj_fo (bX12_firstIn_37 μ a0 a1 a2) r j s)), (5, .int (nI 16))] 122 []) → rj_R g RX12 cX12_firstIn 6 (some .int) wsX12_firstIn [] (rj_rm 2 0) F 0 ω (mX12_lacks μ (fX12_isStage μ a0)) [(0, .ref (ω.2.2 395)), (1, .int a0), (2, .int a1), (3, .int a2), (4, .int s), (5, .int (nI j))] 37 [] := by
  intro r
  induction r with
  | zero =>
    intro j s hj hq0 K
    have e0 : j = 16 := by omega
    have hge : 16 ≤ nI j := by
      rw [e0]
      exact Int32.le_refl _
    refine rj_iload 5 dX12_firstIn_37 rfl rfl ?_
    refine rj_bipush (v := 16) dX12_firstIn_39 rfl (by decide) ?_
    refine rj_icmp_ge dX12_firstIn_41 rfl rfl (fun h12 => ?_) (fun h12 => ?_)
    · have e1 : nI j = nI 16 := by rw [e0]
      rw [e1]
      exact K
    · exact absurd hge h12
  | succ r ih =>
    intro j37 s37 hj hq0 K
    have hl37 : j37 < 16 := by omega
    have hg37 : ¬ 16 ≤ nI j37 := nI_ge hl37 (rj_bl rfl)
    have hqa := ra_fo_q (hq0 True.intro)
    unfold qX12_firstIn_37 at hqa
    refine rj_iload 5 dX12_firstIn_37 rfl rfl ?_
    refine rj_bipush (v := 16) dX12_firstIn_39 rfl (by decide) ?_
    refine rj_icmp_ge dX12_firstIn_41 rfl rfl (fun h5 => ?_) (fun h5 => ?_)
    · exact absurd h5 hg37
    · refine rj_aload_n 0 dX12_firstIn_44 rfl rfl ?_
      refine rj_iload 5 dX12_firstIn_45 rfl rfl ?_
      refine rj_cV (rest := []) (sX12_isAct (g := g) (ω := ω) hω (mX12_lacks μ (fX12_isStage μ a0)) (nI j37)   ) gX12_firstIn_X12_isAct (rj_lt hω (k := 395) rfl) (rj_sh hω ly_395) rfl rfl hVX12_isAct ⟨Nat.le_of_ble_eq_true rfl, Nat.le_of_ble_eq_true rfl⟩ dX12_firstIn_47 rfl rfl rfl (Nat.le_of_ble_eq_true rfl) rfl (Nat.le_of_ble_eq_true rfl) rfl ?_
      refine rj_if_eq dX12_firstIn_50 rfl rfl (fun h6 => ?_) (fun h6 => ?_)
      · skip
        refine rj_iinc (v := nI (j37 + 1)) (l' := [(5, .int (nI (j37 + 1))), (0, .ref (ω.2.2 395)), (1, .int a0), (2, .int a1), (3, .int a2), (4, .int s37)]) 5 dX12_firstIn_116 rfl rfl (nI_succ j37).symm (rj_bl rfl) rfl ?_
        refine rj_goto dX12_firstIn_119 rfl ?_
        have e : bX12_firstIn_37 μ a0 a1 a2 j37 s37 = s37 := by unfold bX12_firstIn_37; rw [if_pos h6]; try rfl
        exact rj_sub (l' := [(0, .ref (ω.2.2 395)), (1, .int a0), (2, .int a1), (3, .int a2), (4, .int s37), (5, .int (nI (j37 + 1)))]) [1, 2, 3, 4, 5, 0] rfl (ih (j37 + 1) s37 (by omega) (fun _ => ra_fo_n (hq0 True.intro) e) (by rw [rj_fo_s, e] at K; exact K))
      · have hq6 := (And.right hqa) h6
        refine rj_aload_n 0 dX12_firstIn_53 rfl rfl ?_
        refine rj_iload 5 dX12_firstIn_54 rfl rfl ?_
        refine rj_iconst (v := 1) dX12_firstIn_56 rfl (by decide) ?_
        refine rj_cV (rest := []) (sX12_its (g := g) (ω := ω) hω (mX12_lacks μ (fX12_isStage μ a0)) (nI j37) 1  (vp_in_nI hl37 (rj_bl rfl)) (vp_in_nI (n := 1) (rj_bl rfl) (rj_bl rfl)) ) gX12_firstIn_X12_its (rj_lt hω (k := 395) rfl) (rj_sh hω ly_395) rfl rfl hVX12_its ⟨Nat.le_of_ble_eq_true rfl, Nat.le_of_ble_eq_true rfl⟩ dX12_firstIn_57 rfl rfl rfl (Nat.le_of_ble_eq_true rfl) rfl (Nat.le_of_ble_eq_true rfl) rfl ?_
        refine rj_iload_n 1 dX12_firstIn_60 rfl rfl ?_
        refine rj_icmp_ne dX12_firstIn_61 rfl rfl (fun h7 => ?_) (fun h7 => ?_)
        · skip
          refine rj_iinc (v := nI (j37 + 1)) (l' := [(5, .int (nI (j37 + 1))), (0, .ref (ω.2.2 395)), (1, .int a0), (2, .int a1), (3, .int a2), (4, .int s37)]) 5 dX12_firstIn_116 rfl rfl (nI_succ j37).symm (rj_bl rfl) rfl ?_
          refine rj_goto dX12_firstIn_119 rfl ?_
          have e : bX12_firstIn_37 μ a0 a1 a2 j37 s37 = s37 := by unfold bX12_firstIn_37; rw [if_neg h6]; rw [if_neg h7]; try rfl
          exact rj_sub (l' := [(0, .ref (ω.2.2 395)), (1, .int a0), (2, .int a1), (3, .int a2), (4, .int s37), (5, .int (nI (j37 + 1)))]) [1, 2, 3, 4, 5, 0] rfl (ih (j37 + 1) s37 (by omega) (fun _ => ra_fo_n (hq0 True.intro) e) (by rw [rj_fo_s, e] at K; exact K))
        · have hq8 := (And.left hq6) h7
          refine rj_aload_n 0 dX12_firstIn_64 rfl rfl ?_
          refine rj_iload 5 dX12_firstIn_65 rfl rfl ?_
          refine rj_iconst (v := 2) dX12_firstIn_67 rfl (by decide) ?_
          refine rj_cV (rest := []) (sX12_its (g := g) (ω := ω) hω (mX12_lacks μ (fX12_isStage μ a0)) (nI j37) 2  (vp_in_nI hl37 (rj_bl rfl)) (vp_in_nI (n := 2) (rj_bl rfl) (rj_bl rfl)) ) gX12_firstIn_X12_its (rj_lt hω (k := 395) rfl) (rj_sh hω ly_395) rfl rfl hVX12_its ⟨Nat.le_of_ble_eq_true rfl, Nat.le_of_ble_eq_true rfl⟩ dX12_firstIn_68 rfl rfl rfl (Nat.le_of_ble_eq_true rfl) rfl (Nat.le_of_ble_eq_true rfl) rfl ?_
          refine rj_iload_n 2 dX12_firstIn_71 rfl rfl ?_
          refine rj_icmp_lt dX12_firstIn_72 rfl rfl (fun h8 => ?_) (fun h8 => ?_)
          · skip
            refine rj_iinc (v := nI (j37 + 1)) (l' := [(5, .int (nI (j37 + 1))), (0, .ref (ω.2.2 395)), (1, .int a0), (2, .int a1), (3, .int a2), (4, .int s37)]) 5 dX12_firstIn_116 rfl rfl (nI_succ j37).symm (rj_bl rfl) rfl ?_
            refine rj_goto dX12_firstIn_119 rfl ?_
            have e : bX12_firstIn_37 μ a0 a1 a2 j37 s37 = s37 := by unfold bX12_firstIn_37; rw [if_neg h6]; rw [if_pos h7]; rw [if_pos h8]; try rfl
            exact rj_sub (l' := [(0, .ref (ω.2.2 395)), (1, .int a0), (2, .int a1), (3, .int a2), (4, .int s37), (5, .int (nI (j37 + 1)))]) [1, 2, 3, 4, 5, 0] rfl (ih (j37 + 1) s37 (by omega) (fun _ => ra_fo_n (hq0 True.intro) e) (by rw [rj_fo_s, e] at K; exact K))
          · have hq10 := (And.right hq8) h8
            refine rj_aload_n 0 dX12_firstIn_75 rfl rfl ?_
            refine rj_iload 5 dX12_firstIn_76 rfl rfl ?_
            refine rj_iconst (v := 2) dX12_firstIn_78 rfl (by decide) ?_
            refine rj_cV (rest := []) (sX12_its (g := g) (ω := ω) hω (mX12_lacks μ (fX12_isStage μ a0)) (nI j37) 2  (vp_in_nI hl37 (rj_bl rfl)) (vp_in_nI (n := 2) (rj_bl rfl) (rj_bl rfl)) ) gX12_firstIn_X12_its (rj_lt hω (k := 395) rfl) (rj_sh hω ly_395) rfl rfl hVX12_its ⟨Nat.le_of_ble_eq_true rfl, Nat.le_of_ble_eq_true rfl⟩ dX12_firstIn_79 rfl rfl rfl (Nat.le_of_ble_eq_true rfl) rfl (Nat.le_of_ble_eq_true rfl) rfl ?_
            refine rj_iload_n 3 dX12_firstIn_82 rfl rfl ?_
            refine rj_icmp_lt dX12_firstIn_83 rfl rfl (fun h9 => ?_) (fun h9 => ?_)
            · have hq11 := (And.left hq10) h9
              refine rj_iload 4 dX12_firstIn_89 rfl rfl ?_
              refine rj_iconst (v := (-1)) dX12_firstIn_91 rfl (by decide) ?_
              refine rj_icmp_eq dX12_firstIn_92 rfl rfl (fun h10 => ?_) (fun h10 => ?_)
              · skip
                refine rj_iload 5 dX12_firstIn_112 rfl rfl ?_
                refine rj_istore (l' := [(4, .int (nI j37)), (0, .ref (ω.2.2 395)), (1, .int a0), (2, .int a1), (3, .int a2), (5, .int (nI j37))]) dX12_firstIn_114 rfl (rj_bl rfl) rfl ?_
                refine rj_iinc (v := nI (j37 + 1)) (l' := [(5, .int (nI (j37 + 1))), (4, .int (nI j37)), (0, .ref (ω.2.2 395)), (1, .int a0), (2, .int a1), (3, .int a2)]) 5 dX12_firstIn_116 rfl rfl (nI_succ j37).symm (rj_bl rfl) rfl ?_
                refine rj_goto dX12_firstIn_119 rfl ?_
                have e : bX12_firstIn_37 μ a0 a1 a2 j37 s37 = (nI j37) := by unfold bX12_firstIn_37; rw [if_neg h6]; rw [if_pos h7]; rw [if_neg h8]; rw [if_pos h9]; rw [if_pos h10]; try rfl
                exact rj_sub (l' := [(0, .ref (ω.2.2 395)), (1, .int a0), (2, .int a1), (3, .int a2), (4, .int (nI j37)), (5, .int (nI (j37 + 1)))]) [2, 3, 4, 5, 1, 0] rfl (ih (j37 + 1) (nI j37) (by omega) (fun _ => ra_fo_n (hq0 True.intro) e) (by rw [rj_fo_s, e] at K; exact K))
              · have hq13 := (And.right hq11) h10
                refine rj_aload_n 0 dX12_firstIn_95 rfl rfl ?_
                refine rj_iload 5 dX12_firstIn_96 rfl rfl ?_
                refine rj_iconst (v := 2) dX12_firstIn_98 rfl (by decide) ?_
                refine rj_cV (rest := []) (sX12_its (g := g) (ω := ω) hω (mX12_lacks μ (fX12_isStage μ a0)) (nI j37) 2  (vp_in_nI hl37 (rj_bl rfl)) (vp_in_nI (n := 2) (rj_bl rfl) (rj_bl rfl)) ) gX12_firstIn_X12_its (rj_lt hω (k := 395) rfl) (rj_sh hω ly_395) rfl rfl hVX12_its ⟨Nat.le_of_ble_eq_true rfl, Nat.le_of_ble_eq_true rfl⟩ dX12_firstIn_99 rfl rfl rfl (Nat.le_of_ble_eq_true rfl) rfl (Nat.le_of_ble_eq_true rfl) rfl ?_
                refine rj_aload_n 0 dX12_firstIn_102 rfl rfl ?_
                refine rj_iload 4 dX12_firstIn_103 rfl rfl ?_
                refine rj_iconst (v := 2) dX12_firstIn_105 rfl (by decide) ?_
                refine rj_cV (rest := [.int (fX12_its (mX12_lacks μ (fX12_isStage μ a0)) (nI j37) 2)]) (sX12_its (g := g) (ω := ω) hω (mX12_lacks μ (fX12_isStage μ a0)) s37 2  (And.left hq13) (vp_in_nI (n := 2) (rj_bl rfl) (rj_bl rfl)) ) gX12_firstIn_X12_its (rj_lt hω (k := 395) rfl) (rj_sh hω ly_395) rfl rfl hVX12_its ⟨Nat.le_of_ble_eq_true rfl, Nat.le_of_ble_eq_true rfl⟩ dX12_firstIn_106 rfl rfl rfl (Nat.le_of_ble_eq_true rfl) rfl (Nat.le_of_ble_eq_true rfl) rfl ?_
                refine rj_icmp_ge dX12_firstIn_109 rfl rfl (fun h11 => ?_) (fun h11 => ?_)
                · skip
                  refine rj_iinc (v := nI (j37 + 1)) (l' := [(5, .int (nI (j37 + 1))), (0, .ref (ω.2.2 395)), (1, .int a0), (2, .int a1), (3, .int a2), (4, .int s37)]) 5 dX12_firstIn_116 rfl rfl (nI_succ j37).symm (rj_bl rfl) rfl ?_
                  refine rj_goto dX12_firstIn_119 rfl ?_
                  have e : bX12_firstIn_37 μ a0 a1 a2 j37 s37 = s37 := by unfold bX12_firstIn_37; rw [if_neg h6]; rw [if_pos h7]; rw [if_neg h8]; rw [if_pos h9]; rw [if_neg h10]; rw [if_pos h11]; try rfl
                  exact rj_sub (l' := [(0, .ref (ω.2.2 395)), (1, .int a0), (2, .int a1), (3, .int a2), (4, .int s37), (5, .int (nI (j37 + 1)))]) [1, 2, 3, 4, 5, 0] rfl (ih (j37 + 1) s37 (by omega) (fun _ => ra_fo_n (hq0 True.intro) e) (by rw [rj_fo_s, e] at K; exact K))
                · skip
                  refine rj_iload 5 dX12_firstIn_112 rfl rfl ?_
                  refine rj_istore (l' := [(4, .int (nI j37)), (0, .ref (ω.2.2 395)), (1, .int a0), (2, .int a1), (3, .int a2), (5, .int (nI j37))]) dX12_firstIn_114 rfl (rj_bl rfl) rfl ?_
                  refine rj_iinc (v := nI (j37 + 1)) (l' := [(5, .int (nI (j37 + 1))), (4, .int (nI j37)), (0, .ref (ω.2.2 395)), (1, .int a0), (2, .int a1), (3, .int a2)]) 5 dX12_firstIn_116 rfl rfl (nI_succ j37).symm (rj_bl rfl) rfl ?_
                  refine rj_goto dX12_firstIn_119 rfl ?_
                  have e : bX12_firstIn_37 μ a0 a1 a2 j37 s37 = (nI j37) := by unfold bX12_firstIn_37; rw [if_neg h6]; rw [if_pos h7]; rw [if_neg h8]; rw [if_pos h9]; rw [if_neg h10]; rw [if_neg h11]; try rfl
                  exact rj_sub (l' := [(0, .ref (ω.2.2 395)), (1, .int a0), (2, .int a1), (3, .int a2), (4, .int (nI j37)), (5, .int (nI (j37 + 1)))]) [2, 3, 4, 5, 1, 0] rfl (ih (j37 + 1) (nI j37) (by omega) (fun _ => ra_fo_n (hq0 True.intro) e) (by rw [rj_fo_s, e] at K; exact K))
            · skip
              refine rj_goto dX12_firstIn_86 rfl ?_
              refine rj_iinc (v := nI (j37 + 1)) (l' := [(5, .int (nI (j37 + 1))), (0, .ref (ω.2.2 395)), (1, .int a0), (2, .int a1), (3, .int a2), (4, .int s37)]) 5 dX12_firstIn_116 rfl rfl (nI_succ j37).symm (rj_bl rfl) rfl ?_
              refine rj_goto dX12_firstIn_119 rfl ?_
              have e : bX12_firstIn_37 μ a0 a1 a2 j37 s37 = s37 := by unfold bX12_firstIn_37; rw [if_neg h6]; rw [if_pos h7]; rw [if_neg h8]; rw [if_neg h9]; try rfl
              exact rj_sub (l' := [(0, .ref (ω.2.2 395)), (1, .int a0), (2, .int a1), (3, .int a2), (4, .int s37), (5, .int (nI (j37 + 1)))]) [1, 2, 3, 4, 5, 0] rfl (ih (j37 + 1) s37 (by omega) (fun _ => ra_fo_n (hq0 True.intro) e) (by rw [rj_fo_s, e] at K; exact K))
noncomputable def fX12_firstIn (μ : rj_M) (a0 : Int32) (a1 : Int32) (a2 : Int32) : Int32 := (if (fX12_lacks μ (fX12_isStage μ a0)) = 0 then (if a2 < a1 then 0 else (rj_fo (bX12_firstIn_37 μ a0 a1 a2) 16 0 (-1))) else 0)
noncomputable def mX12_firstIn (μ : rj_M) (a0 : Int32) (a1 : Int32) (a2 : Int32) : rj_M := (if (fX12_lacks μ (fX12_isStage μ a0)) = 0 then (if a2 < a1 then (mX12_noF (mX12_lacks μ (fX12_isStage μ a0)) 2) else (mX12_lacks μ (fX12_isStage μ a0))) else (mX12_lacks μ (fX12_isStage μ a0)))
noncomputable def qX12_firstIn (μ : rj_M) (a0 : Int32) (a1 : Int32) (a2 : Int32) : Prop := ((((fX12_lacks μ (fX12_isStage μ a0)) = 0) → (((a2 < a1) → True) ∧ ((¬ (a2 < a1)) → ((True → ra_fo (qX12_firstIn_37 μ a0 a1 a2) (bX12_firstIn_37 μ a0 a1 a2) 16 0 (-1)) ∧ True)))) ∧ ((¬ ((fX12_lacks μ (fX12_isStage μ a0)) = 0)) → True))
set_option maxHeartbeats 40000000 in
set_option maxRecDepth 100000 in
theorem sX12_firstIn {g : rj_G} {ω : rj_W} (hω : rj_ok ω) (μ : rj_M) (a0 : Int32) (a1 : Int32) (a2 : Int32)   (hq : qX12_firstIn μ a0 a1 a2) : rj_Sp g yX12_firstIn wsX12_firstIn (rj_rm 2 0) [.ref (ω.2.2 395), .int a0, .int a1, .int a2] ω μ (rj_D (.inl (some (.int (fX12_firstIn μ a0 a1 a2)))) ω (mX12_firstIn μ a0 a1 a2)) := by
  have hqa := hq
  unfold qX12_firstIn at hqa
  refine rj_of' (cc := cX12_firstIn) (nL := 6) (ret := (some .int)) (own := RX12) (l0 := [(0, .ref (ω.2.2 395)), (1, .int a0), (2, .int a1), (3, .int a2)]) rfl (by decide +kernel) rfl (Nat.le_of_ble_eq_true rfl) rfl ?_
  refine rj_aload_n 0 dX12_firstIn_0 rfl rfl ?_
  refine rj_iload_n 1 dX12_firstIn_1 rfl rfl ?_
  refine rj_cS (rest := [.ref (ω.2.2 395)]) (sX12_isStage (g := g) (ω := ω) hω μ a0   ) gX12_firstIn_X12_isStage rfl hSX12_isStage ⟨Nat.le_of_ble_eq_true rfl, Nat.le_of_ble_eq_true rfl⟩ dX12_firstIn_2 rfl rfl rfl (Nat.le_of_ble_eq_true rfl) rfl (Nat.le_of_ble_eq_true rfl) rfl ?_
  refine rj_cV (rest := []) (sX12_lacks (g := g) (ω := ω) hω μ (fX12_isStage μ a0)   ) gX12_firstIn_X12_lacks (rj_lt hω (k := 395) rfl) (rj_sh hω ly_395) rfl rfl hVX12_lacks ⟨Nat.le_of_ble_eq_true rfl, Nat.le_of_ble_eq_true rfl⟩ dX12_firstIn_5 rfl rfl rfl (Nat.le_of_ble_eq_true rfl) rfl (Nat.le_of_ble_eq_true rfl) rfl ?_
  refine rj_if_ne dX12_firstIn_8 rfl rfl (fun h1 => ?_) (fun h1 => ?_)
  · skip
    refine rj_iconst (v := 0) dX12_firstIn_29 rfl (by decide) ?_
    exact rj_iret dX12_firstIn_30 rfl (Nat.le_of_ble_eq_true rfl) (Nat.le_of_ble_eq_true rfl) ⟨(by unfold fX12_firstIn; rw [if_neg h1]; try rfl), rfl, (by unfold mX12_firstIn; rw [if_neg h1]; try rfl)⟩
  · have hq2 := (And.left hqa) h1
    refine rj_aload_n 0 dX12_firstIn_11 rfl rfl ?_
    refine rj_iload_n 2 dX12_firstIn_12 rfl rfl ?_
    refine rj_iload_n 3 dX12_firstIn_13 rfl rfl ?_
    refine rj_icmp_gt dX12_firstIn_14 rfl rfl (fun h2 => ?_) (fun h2 => ?_)
    · skip
      refine rj_iconst (v := 0) dX12_firstIn_21 rfl (by decide) ?_
      refine rj_iconst (v := 2) dX12_firstIn_22 rfl (by decide) ?_
      refine rj_cV (rest := []) (sX12_noF (g := g) (ω := ω) hω (mX12_lacks μ (fX12_isStage μ a0)) 2   ) gX12_firstIn_X12_no (rj_lt hω (k := 395) rfl) (rj_sh hω ly_395) rfl rfl hVX12_no ⟨Nat.le_of_ble_eq_true rfl, Nat.le_of_ble_eq_true rfl⟩ dX12_firstIn_23 rfl rfl rfl (Nat.le_of_ble_eq_true rfl) rfl (Nat.le_of_ble_eq_true rfl) rfl ?_
      refine rj_if_eq dX12_firstIn_26 rfl rfl (fun h3 => ?_) (fun h3 => ?_)
      · exact absurd h3 (by decide)
      · refine rj_iconst (v := 0) dX12_firstIn_29 rfl (by decide) ?_
        exact rj_iret dX12_firstIn_30 rfl (Nat.le_of_ble_eq_true rfl) (Nat.le_of_ble_eq_true rfl) ⟨(by unfold fX12_firstIn; rw [if_pos h1]; rw [if_pos h2]; try rfl), rfl, (by unfold mX12_firstIn; rw [if_pos h1]; rw [if_pos h2]; try rfl)⟩
    · have hq4 := (And.right hq2) h2
      refine rj_iconst (v := 1) dX12_firstIn_17 rfl (by decide) ?_
      refine rj_goto dX12_firstIn_18 rfl ?_
      refine rj_iconst (v := 2) dX12_firstIn_22 rfl (by decide) ?_
      refine rj_cV (rest := []) (sX12_noT (g := g) (ω := ω) hω (mX12_lacks μ (fX12_isStage μ a0)) 2   ) gX12_firstIn_X12_no (rj_lt hω (k := 395) rfl) (rj_sh hω ly_395) rfl rfl hVX12_no ⟨Nat.le_of_ble_eq_true rfl, Nat.le_of_ble_eq_true rfl⟩ dX12_firstIn_23 rfl rfl rfl (Nat.le_of_ble_eq_true rfl) rfl (Nat.le_of_ble_eq_true rfl) rfl ?_
      refine rj_if_eq dX12_firstIn_26 rfl rfl (fun h4 => ?_) (fun h4 => ?_)
      · refine rj_iconst (v := (-1)) dX12_firstIn_31 rfl (by decide) ?_
        refine rj_istore (l' := [(4, .int (-1)), (0, .ref (ω.2.2 395)), (1, .int a0), (2, .int a1), (3, .int a2)]) dX12_firstIn_32 rfl (rj_bl rfl) rfl ?_
        refine rj_iconst (v := 0) dX12_firstIn_34 rfl (by decide) ?_
        refine rj_istore (l' := [(5, .int 0), (4, .int (-1)), (0, .ref (ω.2.2 395)), (1, .int a0), (2, .int a1), (3, .int a2)]) dX12_firstIn_35 rfl (rj_bl rfl) rfl ?_
        refine rj_sub (l' := [(0, .ref (ω.2.2 395)), (1, .int a0), (2, .int a1), (3, .int a2), (4, .int (-1)), (5, .int (nI 0))]) [2, 3, 4, 5, 1, 0] rfl ?_
        refine lX12_firstIn_37 hω μ a0 a1 a2     h1 h2 16 0 (-1) rfl (And.left hq4) ?_
        refine rj_iload 4 dX12_firstIn_122 rfl rfl ?_
        exact rj_iret dX12_firstIn_124 rfl (Nat.le_of_ble_eq_true rfl) (Nat.le_of_ble_eq_true rfl) ⟨(by unfold fX12_firstIn; rw [if_pos h1]; rw [if_neg h2]; try rfl), rfl, (by unfold mX12_firstIn; rw [if_pos h1]; rw [if_neg h2]; try rfl)⟩
      · exact absurd (by decide) h4
theorem hSX12_clash : yX12_clash.cls ≠ "java/lang/invoke/MethodHandle" ∧ yX12_clash.cls ≠ "java/lang/invoke/VarHandle" ∧ (parseMethodDescriptor yX12_clash.desc).map (fun d => d.parameters.length) = some 2 := by decide +kernel
theorem hVX12_clash : yX12_clash.cls = RX12 ∧ yX12_clash.cls ≠ "java/lang/invoke/MethodHandle" ∧ yX12_clash.cls ≠ "java/lang/invoke/VarHandle" ∧ (parseMethodDescriptor yX12_clash.desc).map (fun d => d.parameters.length) = some 2 := by decide +kernel
noncomputable def fX12_clash (μ : rj_M) (a0 : Int32) (a1 : Int32) : Int32 := (if (fX12_isAct μ a0) = 0 then 0 else (if (fX12_isAct μ a1) = 0 then 0 else (if a0 = a1 then 0 else (if (fX12_areClashing (mX12_lacksT μ) a0 a1) = 0 then 0 else 1))))
noncomputable def mX12_clash (μ : rj_M) (a0 : Int32) (a1 : Int32) : rj_M := (if (fX12_isAct μ a0) = 0 then (mX12_lacksF μ) else (if (fX12_isAct μ a1) = 0 then (mX12_lacksF μ) else (if a0 = a1 then (mX12_noF (mX12_lacksT μ) 2) else (if (fX12_areClashing (mX12_lacksT μ) a0 a1) = 0 then (mX12_lacksT μ) else (mX12_lacksT μ)))))
set_option maxHeartbeats 40000000 in
set_option maxRecDepth 100000 in
theorem sX12_clash {g : rj_G} {ω : rj_W} (hω : rj_ok ω) (μ : rj_M) (a0 : Int32) (a1 : Int32)   : rj_Sp g yX12_clash wsX12_clash (rj_rm 4 0) [.ref (ω.2.2 395), .int a0, .int a1] ω μ (rj_D (.inl (some (.int (fX12_clash μ a0 a1)))) ω (mX12_clash μ a0 a1)) := by
  refine rj_of' (cc := cX12_clash) (nL := 3) (ret := (some .boolean)) (own := RX12) (l0 := [(0, .ref (ω.2.2 395)), (1, .int a0), (2, .int a1)]) rfl (by decide +kernel) rfl (Nat.le_of_ble_eq_true rfl) rfl ?_
  refine rj_aload_n 0 dX12_clash_0 rfl rfl ?_
  refine rj_aload_n 0 dX12_clash_1 rfl rfl ?_
  refine rj_iload_n 1 dX12_clash_2 rfl rfl ?_
  refine rj_cV (rest := [.ref (ω.2.2 395)]) (sX12_isAct (g := g) (ω := ω) hω μ a0   ) gX12_clash_X12_isAct (rj_lt hω (k := 395) rfl) (rj_sh hω ly_395) rfl rfl hVX12_isAct ⟨Nat.le_of_ble_eq_true rfl, Nat.le_of_ble_eq_true rfl⟩ dX12_clash_3 rfl rfl rfl (Nat.le_of_ble_eq_true rfl) rfl (Nat.le_of_ble_eq_true rfl) rfl ?_
  refine rj_if_eq dX12_clash_6 rfl rfl (fun h1 => ?_) (fun h1 => ?_)
  · refine rj_iconst (v := 0) dX12_clash_21 rfl (by decide) ?_
    refine rj_cV (rest := []) (sX12_lacksF (g := g) (ω := ω) hω μ   ) gX12_clash_X12_lacks (rj_lt hω (k := 395) rfl) (rj_sh hω ly_395) rfl rfl hVX12_lacks ⟨Nat.le_of_ble_eq_true rfl, Nat.le_of_ble_eq_true rfl⟩ dX12_clash_22 rfl rfl rfl (Nat.le_of_ble_eq_true rfl) rfl (Nat.le_of_ble_eq_true rfl) rfl ?_
    refine rj_if_ne dX12_clash_25 rfl rfl (fun h2 => ?_) (fun h2 => ?_)
    · refine rj_iconst (v := 0) dX12_clash_59 rfl (by decide) ?_
      exact rj_zret dX12_clash_60 rfl rfl (Nat.le_of_ble_eq_true rfl) (Nat.le_of_ble_eq_true rfl) ⟨(by unfold fX12_clash; rw [if_pos h1]; try rfl), rfl, (by unfold mX12_clash; rw [if_pos h1]; try rfl)⟩
    · exact absurd h2 (by decide)
  · refine rj_aload_n 0 dX12_clash_9 rfl rfl ?_
    refine rj_iload_n 2 dX12_clash_10 rfl rfl ?_
    refine rj_cV (rest := [.ref (ω.2.2 395)]) (sX12_isAct (g := g) (ω := ω) hω μ a1   ) gX12_clash_X12_isAct (rj_lt hω (k := 395) rfl) (rj_sh hω ly_395) rfl rfl hVX12_isAct ⟨Nat.le_of_ble_eq_true rfl, Nat.le_of_ble_eq_true rfl⟩ dX12_clash_11 rfl rfl rfl (Nat.le_of_ble_eq_true rfl) rfl (Nat.le_of_ble_eq_true rfl) rfl ?_
    refine rj_if_eq dX12_clash_14 rfl rfl (fun h3 => ?_) (fun h3 => ?_)
    · refine rj_iconst (v := 0) dX12_clash_21 rfl (by decide) ?_
      refine rj_cV (rest := []) (sX12_lacksF (g := g) (ω := ω) hω μ   ) gX12_clash_X12_lacks (rj_lt hω (k := 395) rfl) (rj_sh hω ly_395) rfl rfl hVX12_lacks ⟨Nat.le_of_ble_eq_true rfl, Nat.le_of_ble_eq_true rfl⟩ dX12_clash_22 rfl rfl rfl (Nat.le_of_ble_eq_true rfl) rfl (Nat.le_of_ble_eq_true rfl) rfl ?_
      refine rj_if_ne dX12_clash_25 rfl rfl (fun h4 => ?_) (fun h4 => ?_)
      · refine rj_iconst (v := 0) dX12_clash_59 rfl (by decide) ?_
        exact rj_zret dX12_clash_60 rfl rfl (Nat.le_of_ble_eq_true rfl) (Nat.le_of_ble_eq_true rfl) ⟨(by unfold fX12_clash; rw [if_neg h1]; rw [if_pos h3]; try rfl), rfl, (by unfold mX12_clash; rw [if_neg h1]; rw [if_pos h3]; try rfl)⟩
      · exact absurd h4 (by decide)
    · refine rj_iconst (v := 1) dX12_clash_17 rfl (by decide) ?_
      refine rj_goto dX12_clash_18 rfl ?_
      refine rj_cV (rest := []) (sX12_lacksT (g := g) (ω := ω) hω μ   ) gX12_clash_X12_lacks (rj_lt hω (k := 395) rfl) (rj_sh hω ly_395) rfl rfl hVX12_lacks ⟨Nat.le_of_ble_eq_true rfl, Nat.le_of_ble_eq_true rfl⟩ dX12_clash_22 rfl rfl rfl (Nat.le_of_ble_eq_true rfl) rfl (Nat.le_of_ble_eq_true rfl) rfl ?_
      refine rj_if_ne dX12_clash_25 rfl rfl (fun h5 => ?_) (fun h5 => ?_)
      · exact absurd (by decide) h5
      · refine rj_aload_n 0 dX12_clash_28 rfl rfl ?_
        refine rj_iload_n 1 dX12_clash_29 rfl rfl ?_
        refine rj_iload_n 2 dX12_clash_30 rfl rfl ?_
        refine rj_icmp_eq dX12_clash_31 rfl rfl (fun h6 => ?_) (fun h6 => ?_)
        · refine rj_iconst (v := 0) dX12_clash_38 rfl (by decide) ?_
          refine rj_iconst (v := 2) dX12_clash_39 rfl (by decide) ?_
          refine rj_cV (rest := []) (sX12_noF (g := g) (ω := ω) hω (mX12_lacksT μ) 2   ) gX12_clash_X12_no (rj_lt hω (k := 395) rfl) (rj_sh hω ly_395) rfl rfl hVX12_no ⟨Nat.le_of_ble_eq_true rfl, Nat.le_of_ble_eq_true rfl⟩ dX12_clash_40 rfl rfl rfl (Nat.le_of_ble_eq_true rfl) rfl (Nat.le_of_ble_eq_true rfl) rfl ?_
          refine rj_if_ne dX12_clash_43 rfl rfl (fun h7 => ?_) (fun h7 => ?_)
          · refine rj_iconst (v := 0) dX12_clash_59 rfl (by decide) ?_
            exact rj_zret dX12_clash_60 rfl rfl (Nat.le_of_ble_eq_true rfl) (Nat.le_of_ble_eq_true rfl) ⟨(by unfold fX12_clash; rw [if_neg h1]; rw [if_neg h3]; rw [if_pos h6]; try rfl), rfl, (by unfold mX12_clash; rw [if_neg h1]; rw [if_neg h3]; rw [if_pos h6]; try rfl)⟩
          · exact absurd h7 (by decide)
        · refine rj_iconst (v := 1) dX12_clash_34 rfl (by decide) ?_
          refine rj_goto dX12_clash_35 rfl ?_
          refine rj_iconst (v := 2) dX12_clash_39 rfl (by decide) ?_
          refine rj_cV (rest := []) (sX12_noT (g := g) (ω := ω) hω (mX12_lacksT μ) 2   ) gX12_clash_X12_no (rj_lt hω (k := 395) rfl) (rj_sh hω ly_395) rfl rfl hVX12_no ⟨Nat.le_of_ble_eq_true rfl, Nat.le_of_ble_eq_true rfl⟩ dX12_clash_40 rfl rfl rfl (Nat.le_of_ble_eq_true rfl) rfl (Nat.le_of_ble_eq_true rfl) rfl ?_
          refine rj_if_ne dX12_clash_43 rfl rfl (fun h8 => ?_) (fun h8 => ?_)
          · exact absurd (by decide) h8
          · refine rj_aload_n 0 dX12_clash_46 rfl rfl ?_
            refine rj_iload_n 1 dX12_clash_47 rfl rfl ?_
            refine rj_iload_n 2 dX12_clash_48 rfl rfl ?_
            refine rj_cV (rest := []) (sX12_areClashing (g := g) (ω := ω) hω (mX12_lacksT μ) a0 a1  (rj_isAct h1) (rj_isAct h3) ) gX12_clash_X12_areClashing (rj_lt hω (k := 395) rfl) (rj_sh hω ly_395) rfl rfl hVX12_areClashing ⟨Nat.le_of_ble_eq_true rfl, Nat.le_of_ble_eq_true rfl⟩ dX12_clash_49 rfl rfl rfl (Nat.le_of_ble_eq_true rfl) rfl (Nat.le_of_ble_eq_true rfl) rfl ?_
            refine rj_if_eq dX12_clash_52 rfl rfl (fun h9 => ?_) (fun h9 => ?_)
            · refine rj_iconst (v := 0) dX12_clash_59 rfl (by decide) ?_
              exact rj_zret dX12_clash_60 rfl rfl (Nat.le_of_ble_eq_true rfl) (Nat.le_of_ble_eq_true rfl) ⟨(by unfold fX12_clash; rw [if_neg h1]; rw [if_neg h3]; rw [if_neg h6]; rw [if_pos h9]; try rfl), rfl, (by unfold mX12_clash; rw [if_neg h1]; rw [if_neg h3]; rw [if_neg h6]; rw [if_pos h9]; try rfl)⟩
            · refine rj_iconst (v := 1) dX12_clash_55 rfl (by decide) ?_
              refine rj_goto dX12_clash_56 rfl ?_
              exact rj_zret dX12_clash_60 rfl rfl (Nat.le_of_ble_eq_true rfl) (Nat.le_of_ble_eq_true rfl) ⟨(by unfold fX12_clash; rw [if_neg h1]; rw [if_neg h3]; rw [if_neg h6]; rw [if_neg h9]; try rfl), rfl, (by unfold mX12_clash; rw [if_neg h1]; rw [if_neg h3]; rw [if_neg h6]; rw [if_neg h9]; try rfl)⟩
theorem nX12_clash (μ : rj_M) (a0 : Int32) (a1 : Int32) : narrow .boolean (.int (fX12_clash μ a0 a1)) = .int (fX12_clash μ a0 a1) := by
  unfold fX12_clash
  split
  · rfl
  · split
    · rfl
    · split
      · rfl
      · split
        · rfl
        · rfl
