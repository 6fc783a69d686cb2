noncomputable def rz7 : Nat := Classical.choose (Exists.intro 7 rfl : ∃ n : Nat, n = 7)
theorem rz7_eq : rz7 = 7 := Classical.choose_spec (Exists.intro 7 rfl : ∃ n : Nat, n = 7)
theorem hSX9_tryGoals : yX9_tryGoals.cls ≠ "java/lang/invoke/MethodHandle" ∧ yX9_tryGoals.cls ≠ "java/lang/invoke/VarHandle" ∧ (parseMethodDescriptor yX9_tryGoals.desc).map (fun d => d.parameters.length) = some 3 := by decide +kernel
theorem hVX9_tryGoals : yX9_tryGoals.cls = RX9 ∧ yX9_tryGoals.cls ≠ "java/lang/invoke/MethodHandle" ∧ yX9_tryGoals.cls ≠ "java/lang/invoke/VarHandle" ∧ (parseMethodDescriptor yX9_tryGoals.desc).map (fun d => d.parameters.length) = some 3 := by decide +kernel
theorem vX9_tryGoals_9 : ∀ w ∈ u_ws RX9 TX9 8, w ∈ wsX9_tryGoals := by decide +kernel
theorem kX9_tryGoals_29 : Cond.fieldLink RX9 29 (TX9 7).1 (TX9 7).2.1 (TX9 7).2.2.1 ∈ wsX9_tryGoals := by decide +kernel
theorem kX9_tryGoals_22 : Cond.fieldLink RX9 22 (TX9 5).1 (TX9 5).2.1 (TX9 5).2.2.1 ∈ wsX9_tryGoals := by decide +kernel
theorem kX9_tryGoals_26 : Cond.fieldLink RX9 26 (TX9 6).1 (TX9 6).2.1 (TX9 6).2.2.1 ∈ wsX9_tryGoals := by decide +kernel
noncomputable def bX9_tryGoals_35 (n : Nat) (rc : rj_M → Int32 → Int32 → rj_M) (μ : rj_M) (a1 : Int32) (a2 : Int32) (j35 : Nat) (s35 : rj_M) : rj_M := (if (fX9_hasRoom s35 (nI j35) a1) = 0 then s35 else (rc (rj_pi s35 50 a1.toNatClampNeg (nI j35)) (a1 + 1) a2))
noncomputable def mX9_tryGoals : Nat → rj_M → Int32 → Int32 → rj_M
  | 0, μ, _, _ => μ
  | n + 1, μ, a1, a2 => (if (μ.1 47 7) ≤ a2 then μ else (if 0 ≤ a1 then (if (μ.1 47 5) ≤ a1 then (mX9_keepTried μ a2) else (if a1 < 6 then ((mX9_tryGoals n) (rj_pi (rj_fo (bX9_tryGoals_35 n (mX9_tryGoals n) μ a1 a2) 4 0 μ) 50 a1.toNatClampNeg 4) (a1 + 1) (a2 + 1)) else (mX9_keepTried μ a2))) else μ))
theorem mX9_tryGoals_s (n : Nat) (μ : rj_M) (a1 : Int32) (a2 : Int32) : mX9_tryGoals (n + 1) μ a1 a2 = (if (μ.1 47 7) ≤ a2 then μ else (if 0 ≤ a1 then (if (μ.1 47 5) ≤ a1 then (mX9_keepTried μ a2) else (if a1 < 6 then ((mX9_tryGoals n) (rj_pi (rj_fo (bX9_tryGoals_35 n (mX9_tryGoals n) μ a1 a2) 4 0 μ) 50 a1.toNatClampNeg 4) (a1 + 1) (a2 + 1)) else (mX9_keepTried μ a2))) else μ)) := rfl
noncomputable def qX9_tryGoals_35 (n : Nat) (rc : rj_M → Int32 → Int32 → rj_M) (rcq : rj_M → Int32 → Int32 → Prop) (μ : rj_M) (a1 : Int32) (a2 : Int32) (j35 : Nat) (s35 : rj_M) : Prop := ((((fX9_hasRoom s35 (nI j35) a1) = 0) → True) ∧ ((¬ ((fX9_hasRoom s35 (nI j35) a1) = 0)) → (rcq (rj_pi s35 50 a1.toNatClampNeg (nI j35)) (a1 + 1) a2 ∧ True)))
noncomputable def qX9_tryGoals : Nat → rj_M → Int32 → Int32 → Prop
  | 0, _, _, _ => False
  | n + 1, μ, a1, a2 => ((((μ.1 47 7) ≤ a2) → True) ∧ ((¬ ((μ.1 47 7) ≤ a2)) → (((0 ≤ a1) → ((((μ.1 47 5) ≤ a1) → True) ∧ ((¬ ((μ.1 47 5) ≤ a1)) → (((a1 < 6) → ((True → ra_fo (qX9_tryGoals_35 n (mX9_tryGoals n) (qX9_tryGoals n) μ a1 a2) (bX9_tryGoals_35 n (mX9_tryGoals n) μ a1 a2) 4 0 μ) ∧ ((qX9_tryGoals n) (rj_pi (rj_fo (bX9_tryGoals_35 n (mX9_tryGoals n) μ a1 a2) 4 0 μ) 50 a1.toNatClampNeg 4) (a1 + 1) (a2 + 1) ∧ True))) ∧ ((¬ (a1 < 6)) → True))))) ∧ ((¬ (0 ≤ a1)) → True))))
theorem qX9_tryGoals_s (n : Nat) (μ : rj_M) (a1 : Int32) (a2 : Int32) : qX9_tryGoals (n + 1) μ a1 a2 = ((((μ.1 47 7) ≤ a2) → True) ∧ ((¬ ((μ.1 47 7) ≤ a2)) → (((0 ≤ a1) → ((((μ.1 47 5) ≤ a1) → True) ∧ ((¬ ((μ.1 47 5) ≤ a1)) → (((a1 < 6) → ((True → ra_fo (qX9_tryGoals_35 n (mX9_tryGoals n) (qX9_tryGoals n) μ a1 a2) (bX9_tryGoals_35 n (mX9_tryGoals n) μ a1 a2) 4 0 μ) ∧ ((qX9_tryGoals n) (rj_pi (rj_fo (bX9_tryGoals_35 n (mX9_tryGoals n) μ a1 a2) 4 0 μ) 50 a1.toNatClampNeg 4) (a1 + 1) (a2 + 1) ∧ True))) ∧ ((¬ (a1 < 6)) → True))))) ∧ ((¬ (0 ≤ a1)) → True)))) := rfl
set_option maxHeartbeats 4000000 in
set_option maxRecDepth 100000 in
theorem lX9_tryGoals_35 {g : rj_G} {ω : rj_W} (hω : rj_ok ω) (n : Nat) (rc : rj_M → Int32 → Int32 → rj_M) (rcq : rj_M → Int32 → Int32 → Prop) (μ : rj_M) (a1 : Int32) (a2 : Int32)     (hrc : ∀ (μ : rj_M) (a1 : Int32) (a2 : Int32), rcq μ a1 a2 → rj_Sp g yX9_tryGoals wsX9_tryGoals (rj_rm (4 + n) 0) [.ref (ω.2.2 47), .int a1, .int a2] ω μ (rj_D (.inl none) ω (rc μ a1 a2))) (h1 : ¬ ((μ.1 47 7) ≤ a2)) (h2 : (0 ≤ a1)) (h3 : ¬ ((μ.1 47 5) ≤ a1)) (h4 : (a1 < 6)) {F : rj_F} : ∀ (r j : Nat) (s : rj_M), j + r = 4 → (True → ra_fo (qX9_tryGoals_35 n rc rcq μ a1 a2) (bX9_tryGoals_35 n rc μ a1 a2) r j s) → (rj_R g RX9 cX9_tryGoals 4 none wsX9_tryGoals [] (rj_rm (4 + (n + 1)) 0) F 0 ω (rj_fo (bX9_tryGoals_35 n rc μ a1 a2) r j s) [(0, .ref (ω.2.2 47)), (1, .int a1), (2, .int a2), (3, .int (nI 4))] 70 []) → rj_R g RX9 cX9_tryGoals 4 none wsX9_tryGoals [] (rj_rm (4 + (n + 1)) 0) F 0 ω s [(0, .ref (ω.2.2 47)), (1, .int a1), (2, .int a2), (3, .int (nI j))] 35 [] := by
  intro r
  induction r with
  | zero =>
    intro j s hj hq0 K
    have e0 : j = 4 := by omega
    have hge : 4 ≤ nI j := by
      rw [e0]
      exact Int32.le_refl _
    refine rj_iload_n 3 dX9_tryGoals_35 rfl rfl ?_
    refine rj_iconst (v := 4) dX9_tryGoals_36 rfl (by decide) ?_
    refine rj_icmp_ge dX9_tryGoals_37 rfl rfl (fun h7 => ?_) (fun h7 => ?_)
    · have e1 : nI j = nI 4 := by rw [e0]
      rw [e1]
      exact K
    · exact absurd hge h7
  | succ r ih =>
    intro j35 s35 hj hq0 K
    have hl35 : j35 < 4 := by omega
    have hg35 : ¬ 4 ≤ nI j35 := nI_ge hl35 (rj_bl rfl)
    have hqa := ra_fo_q (hq0 True.intro)
    unfold qX9_tryGoals_35 at hqa
    refine rj_iload_n 3 dX9_tryGoals_35 rfl rfl ?_
    refine rj_iconst (v := 4) dX9_tryGoals_36 rfl (by decide) ?_
    refine rj_icmp_ge dX9_tryGoals_37 rfl rfl (fun h5 => ?_) (fun h5 => ?_)
    · exact absurd h5 hg35
    · refine rj_aload_n 0 dX9_tryGoals_40 rfl rfl ?_
      refine rj_iload_n 3 dX9_tryGoals_41 rfl rfl ?_
      refine rj_iload_n 1 dX9_tryGoals_42 rfl rfl ?_
      refine rj_cV (rest := []) (sX9_hasRoom (g := g) (ω := ω) hω s35 (nI j35) a1   ) gX9_tryGoals_X9_hasRoom (rj_lt hω (k := 47) rfl) (rj_sh hω ly_47) rfl rfl hVX9_hasRoom ⟨by omega, by omega⟩ dX9_tryGoals_43 rfl rfl rfl (Nat.le_of_ble_eq_true rfl) rfl (Nat.le_of_ble_eq_true rfl) rfl ?_
      refine rj_if_eq dX9_tryGoals_46 rfl rfl (fun h6 => ?_) (fun h6 => ?_)
      · skip
        refine rj_iinc (v := nI (j35 + 1)) (l' := [(3, .int (nI (j35 + 1))), (0, .ref (ω.2.2 47)), (1, .int a1), (2, .int a2)]) 3 dX9_tryGoals_64 rfl rfl (nI_succ j35).symm (rj_bl rfl) rfl ?_
        refine rj_goto dX9_tryGoals_67 rfl ?_
        have e : bX9_tryGoals_35 n rc μ a1 a2 j35 s35 = s35 := by unfold bX9_tryGoals_35; rw [if_pos h6]; try rfl
        exact rj_sub (l' := [(0, .ref (ω.2.2 47)), (1, .int a1), (2, .int a2), (3, .int (nI (j35 + 1)))]) [1, 2, 3, 0] rfl (ih (j35 + 1) s35 (by omega) (fun _ => ra_fo_n (hq0 True.intro) e) (by rw [rj_fo_s (r := r), e] at K; exact K))
      · have hq8 := (And.right hqa) h6
        refine rj_aload_n 0 dX9_tryGoals_49 rfl rfl ?_
        refine rj_getR (C0 := RX9) (T := TX9) (N := 8) (j := 6) (r := 50) dX9_tryGoals_50 rfl vX9_tryGoals_9 rfl (rj_lt hω (k := 47) rfl) (rj_sh hω ly_47) (by decide) kX9_tryGoals_26 rfl ?_
        refine rj_iload_n 1 dX9_tryGoals_53 rfl rfl ?_
        refine rj_iload_n 3 dX9_tryGoals_54 rfl rfl ?_
        refine rj_iast dX9_tryGoals_55 rfl (rj_lt hω (k := 50) rfl) (rj_sh hω ly_50) (rj_in (Int32.not_lt.mpr h2) (Int32.not_le.mpr h4) rfl) ?_
        refine rj_aload_n 0 dX9_tryGoals_56 rfl rfl ?_
        refine rj_iload_n 1 dX9_tryGoals_57 rfl rfl ?_
        refine rj_iconst (v := 1) dX9_tryGoals_58 rfl (by decide) ?_
        refine rj_iadd dX9_tryGoals_59 rfl ?_
        refine rj_iload_n 2 dX9_tryGoals_60 rfl rfl ?_
        refine rj_cS (rest := []) (hrc (rj_pi s35 50 a1.toNatClampNeg (nI j35)) (a1 + 1) a2  (And.left hq8)) gX9_tryGoals_X9_tryGoals rfl hSX9_tryGoals ⟨by omega, by omega⟩ dX9_tryGoals_61 rfl rfl rfl (Nat.le_of_ble_eq_true rfl) rfl (Nat.le_of_ble_eq_true rfl) rfl ?_
        refine rj_iinc (v := nI (j35 + 1)) (l' := [(3, .int (nI (j35 + 1))), (0, .ref (ω.2.2 47)), (1, .int a1), (2, .int a2)]) 3 dX9_tryGoals_64 rfl rfl (nI_succ j35).symm (rj_bl rfl) rfl ?_
        refine rj_goto dX9_tryGoals_67 rfl ?_
        have e : bX9_tryGoals_35 n rc μ a1 a2 j35 s35 = (rc (rj_pi s35 50 a1.toNatClampNeg (nI j35)) (a1 + 1) a2) := by unfold bX9_tryGoals_35; rw [if_neg h6]; try rfl
        exact rj_sub (l' := [(0, .ref (ω.2.2 47)), (1, .int a1), (2, .int a2), (3, .int (nI (j35 + 1)))]) [1, 2, 3, 0] rfl (ih (j35 + 1) (rc (rj_pi s35 50 a1.toNatClampNeg (nI j35)) (a1 + 1) a2) (by omega) (fun _ => ra_fo_n (hq0 True.intro) e) (by rw [rj_fo_s (r := r), e] at K; exact K))
set_option maxHeartbeats 40000000 in
set_option maxRecDepth 100000 in
theorem sX9_tryGoals {g : rj_G} {ω : rj_W} (hω : rj_ok ω) : ∀ (n : Nat) (μ : rj_M) (a1 : Int32) (a2 : Int32), qX9_tryGoals n μ a1 a2 → rj_Sp g yX9_tryGoals wsX9_tryGoals (rj_rm (4 + n) 0) [.ref (ω.2.2 47), .int a1, .int a2] ω μ (rj_D (.inl none) ω (mX9_tryGoals n μ a1 a2)) := by
  intro n
  induction n with
  | zero =>
    intro μ a1 a2  hq
    exact hq.elim
  | succ n ih =>
    intro μ a1 a2  hq
    have hqa := hq
    rw [qX9_tryGoals_s] at hqa
    refine rj_of' (cc := cX9_tryGoals) (nL := 4) (ret := none) (own := RX9) (l0 := [(0, .ref (ω.2.2 47)), (1, .int a1), (2, .int a2)]) rfl (by decide +kernel) rfl (Nat.le_of_ble_eq_true rfl) rfl ?_
    refine rj_iload_n 2 dX9_tryGoals_0 rfl rfl ?_
    refine rj_aload_n 0 dX9_tryGoals_1 rfl rfl ?_
    refine rj_getI (C0 := RX9) (T := TX9) (N := 8) (j := 7) dX9_tryGoals_2 rfl vX9_tryGoals_9 rfl (rj_lt hω (k := 47) rfl) (rj_sh hω ly_47) (by decide) kX9_tryGoals_29 rfl ?_
    refine rj_icmp_ge dX9_tryGoals_5 rfl rfl (fun h1 => ?_) (fun h1 => ?_)
    · skip
      exact rj_vret dX9_tryGoals_12 rfl (Nat.le_of_ble_eq_true rfl) (Nat.le_of_ble_eq_true rfl) ⟨rfl, rfl, (by rw [mX9_tryGoals_s]; rw [if_pos h1]; try rfl)⟩
    · have hq2 := (And.right hqa) h1
      refine rj_iload_n 1 dX9_tryGoals_8 rfl rfl ?_
      refine rj_if_ge dX9_tryGoals_9 rfl rfl (fun h2 => ?_) (fun h2 => ?_)
      · have hq3 := (And.left hq2) h2
        refine rj_iload_n 1 dX9_tryGoals_13 rfl rfl ?_
        refine rj_aload_n 0 dX9_tryGoals_14 rfl rfl ?_
        refine rj_getI (C0 := RX9) (T := TX9) (N := 8) (j := 5) dX9_tryGoals_15 rfl vX9_tryGoals_9 rfl (rj_lt hω (k := 47) rfl) (rj_sh hω ly_47) (by decide) kX9_tryGoals_22 rfl ?_
        refine rj_icmp_ge dX9_tryGoals_18 rfl rfl (fun h3 => ?_) (fun h3 => ?_)
        · skip
          refine rj_aload_n 0 dX9_tryGoals_27 rfl rfl ?_
          refine rj_iload_n 2 dX9_tryGoals_28 rfl rfl ?_
          refine rj_cV (rest := []) (sX9_keepTried (g := g) (ω := ω) hω μ a2   ) gX9_tryGoals_X9_keepTried (rj_lt hω (k := 47) rfl) (rj_sh hω ly_47) rfl rfl hVX9_keepTried ⟨by omega, by omega⟩ dX9_tryGoals_29 rfl rfl rfl (Nat.le_of_ble_eq_true rfl) rfl (Nat.le_of_ble_eq_true rfl) rfl ?_
          exact rj_vret dX9_tryGoals_32 rfl (Nat.le_of_ble_eq_true rfl) (Nat.le_of_ble_eq_true rfl) ⟨rfl, rfl, (by rw [mX9_tryGoals_s]; rw [if_neg h1]; rw [if_pos h2]; rw [if_pos h3]; try rfl)⟩
        · have hq5 := (And.right hq3) h3
          refine rj_iload_n 1 dX9_tryGoals_21 rfl rfl ?_
          refine rj_bipush (v := 6) dX9_tryGoals_22 rfl (by decide) ?_
          refine rj_icmp_lt dX9_tryGoals_24 rfl rfl (fun h4 => ?_) (fun h4 => ?_)
          · have hq6 := (And.left hq5) h4
            refine rj_iconst (v := 0) dX9_tryGoals_33 rfl (by decide) ?_
            refine rj_istore_n (l' := [(3, .int 0), (0, .ref (ω.2.2 47)), (1, .int a1), (2, .int a2)]) dX9_tryGoals_34 rfl (rj_bl rfl) rfl ?_
            refine rj_sub (l' := [(0, .ref (ω.2.2 47)), (1, .int a1), (2, .int a2), (3, .int (nI 0))]) [1, 2, 3, 0] rfl ?_
            refine lX9_tryGoals_35 hω n (mX9_tryGoals n) (qX9_tryGoals n) μ a1 a2     ih h1 h2 h3 h4 4 0 μ rfl (And.left hq6) ?_
            refine rj_aload_n 0 dX9_tryGoals_70 rfl rfl ?_
            refine rj_getR (C0 := RX9) (T := TX9) (N := 8) (j := 6) (r := 50) dX9_tryGoals_71 rfl vX9_tryGoals_9 rfl (rj_lt hω (k := 47) rfl) (rj_sh hω ly_47) (by decide) kX9_tryGoals_26 rfl ?_
            refine rj_iload_n 1 dX9_tryGoals_74 rfl rfl ?_
            refine rj_iconst (v := 4) dX9_tryGoals_75 rfl (by decide) ?_
            refine rj_iast dX9_tryGoals_76 rfl (rj_lt hω (k := 50) rfl) (rj_sh hω ly_50) (rj_in (Int32.not_lt.mpr h2) (Int32.not_le.mpr h4) rfl) ?_
            refine rj_aload_n 0 dX9_tryGoals_77 rfl rfl ?_
            refine rj_iload_n 1 dX9_tryGoals_78 rfl rfl ?_
            refine rj_iconst (v := 1) dX9_tryGoals_79 rfl (by decide) ?_
            refine rj_iadd dX9_tryGoals_80 rfl ?_
            refine rj_iload_n 2 dX9_tryGoals_81 rfl rfl ?_
            refine rj_iconst (v := 1) dX9_tryGoals_82 rfl (by decide) ?_
            refine rj_iadd dX9_tryGoals_83 rfl ?_
            refine rj_cS (rest := []) (ih (rj_pi (rj_fo (bX9_tryGoals_35 n (mX9_tryGoals n) μ a1 a2) 4 0 μ) 50 a1.toNatClampNeg 4) (a1 + 1) (a2 + 1)  (And.left (And.right hq6))) gX9_tryGoals_X9_tryGoals rfl hSX9_tryGoals ⟨by omega, by omega⟩ dX9_tryGoals_84 rfl rfl rfl (Nat.le_of_ble_eq_true rfl) rfl (Nat.le_of_ble_eq_true rfl) rfl ?_
            exact rj_vret dX9_tryGoals_87 rfl (Nat.le_of_ble_eq_true rfl) (Nat.le_of_ble_eq_true rfl) ⟨rfl, rfl, (by rw [mX9_tryGoals_s]; rw [if_neg h1]; rw [if_pos h2]; rw [if_neg h3]; rw [if_pos h4]; try rfl)⟩
          · skip
            refine rj_aload_n 0 dX9_tryGoals_27 rfl rfl ?_
            refine rj_iload_n 2 dX9_tryGoals_28 rfl rfl ?_
            refine rj_cV (rest := []) (sX9_keepTried (g := g) (ω := ω) hω μ a2   ) gX9_tryGoals_X9_keepTried (rj_lt hω (k := 47) rfl) (rj_sh hω ly_47) rfl rfl hVX9_keepTried ⟨by omega, by omega⟩ dX9_tryGoals_29 rfl rfl rfl (Nat.le_of_ble_eq_true rfl) rfl (Nat.le_of_ble_eq_true rfl) rfl ?_
            exact rj_vret dX9_tryGoals_32 rfl (Nat.le_of_ble_eq_true rfl) (Nat.le_of_ble_eq_true rfl) ⟨rfl, rfl, (by rw [mX9_tryGoals_s]; rw [if_neg h1]; rw [if_pos h2]; rw [if_neg h3]; rw [if_neg h4]; try rfl)⟩
      · skip
        exact rj_vret dX9_tryGoals_12 rfl (Nat.le_of_ble_eq_true rfl) (Nat.le_of_ble_eq_true rfl) ⟨rfl, rfl, (by rw [mX9_tryGoals_s]; rw [if_neg h1]; rw [if_neg h2]; try rfl)⟩
theorem sX9_tryGoalsF {g : rj_G} {ω : rj_W} (hω : rj_ok ω) (μ : rj_M) (a1 : Int32) (a2 : Int32)  (hq : qX9_tryGoals rz7 μ a1 a2) : rj_Sp g yX9_tryGoals wsX9_tryGoals (rj_rm 11 0) [.ref (ω.2.2 47), .int a1, .int a2] ω μ (rj_D (.inl none) ω (mX9_tryGoals rz7 μ a1 a2)) := by
  have h := sX9_tryGoals (g := g) (ω := ω) hω rz7 μ a1 a2  hq
  rw [show 4 + rz7 = 11 from by rw [rz7_eq]] at h
  exact h
theorem hSX9_make : yX9_make.cls ≠ "java/lang/invoke/MethodHandle" ∧ yX9_make.cls ≠ "java/lang/invoke/VarHandle" ∧ (parseMethodDescriptor yX9_make.desc).map (fun d => d.parameters.length) = some 2 := by decide +kernel
theorem hVX9_make : yX9_make.cls = RX9 ∧ yX9_make.cls ≠ "java/lang/invoke/MethodHandle" ∧ yX9_make.cls ≠ "java/lang/invoke/VarHandle" ∧ (parseMethodDescriptor yX9_make.desc).map (fun d => d.parameters.length) = some 2 := by decide +kernel
theorem vX9_make_9 : ∀ w ∈ u_ws RX9 TX9 8, w ∈ wsX9_make := by decide +kernel
theorem kX9_make_15 : Cond.fieldLink RX9 15 (TX9 3).1 (TX9 3).2.1 (TX9 3).2.2.1 ∈ wsX9_make := by decide +kernel
theorem jX9_make_59_i : Cond.initialized yX11_fillRow.cls ∈ wsX9_make := by decide +kernel
theorem jX9_make_59_s : Cond.static yX11_fillRow ∈ wsX9_make := by decide +kernel
theorem jX9_make_59_n : (RX9, 59, yX11_fillRow, "Festivalgrounds") ∈ rj_nw := by decide +kernel
theorem kX9_make_22 : Cond.fieldLink RX9 22 (TX9 5).1 (TX9 5).2.1 (TX9 5).2.2.1 ∈ wsX9_make := by decide +kernel
theorem kX9_make_19 : Cond.fieldLink RX9 19 (TX9 4).1 (TX9 4).2.1 (TX9 4).2.2.1 ∈ wsX9_make := by decide +kernel
theorem kX9_make_29 : Cond.fieldLink RX9 29 (TX9 7).1 (TX9 7).2.1 (TX9 7).2.2.1 ∈ wsX9_make := by decide +kernel
theorem kX9_make_9 : Cond.fieldLink RX9 9 (TX9 2).1 (TX9 2).2.1 (TX9 2).2.2.1 ∈ wsX9_make := by decide +kernel
noncomputable def bX9_make_15 (μ : rj_M) (a0 : Int32) (a1 : Int32) (j15 : Nat) (s15 : rj_M) : rj_M := (if (fX9_isMet s15 (nI j15) a0 a1) = 0 then s15 else (if 6 ≤ (s15.1 47 5) then s15 else (rj_pi (rj_pi s15 49 (s15.1 47 5).toNatClampNeg (nI j15)) 47 5 (((rj_pi s15 49 (s15.1 47 5).toNatClampNeg (nI j15)).1 47 5) + 1))))
noncomputable def qX9_make_15 (μ : rj_M) (a0 : Int32) (a1 : Int32) (j15 : Nat) (s15 : rj_M) : Prop := ((((fX9_isMet s15 (nI j15) a0 a1) = 0) → True) ∧ ((¬ ((fX9_isMet s15 (nI j15) a0 a1) = 0)) → (((6 ≤ (s15.1 47 5)) → True) ∧ ((¬ (6 ≤ (s15.1 47 5))) → (vp_in (s15.1 47 5) 6 ∧ True)))))
set_option maxHeartbeats 4000000 in
set_option maxRecDepth 100000 in
theorem lX9_make_15 {g : rj_G} {ω : rj_W} (hω : rj_ok ω) (μ : rj_M) (a0 : Int32) (a1 : Int32)      {F : rj_F} : ∀ (r j : Nat) (s : rj_M), j + r = 16 → (True → ra_fo (qX9_make_15 μ a0 a1) (bX9_make_15 μ a0 a1) r j s) → (rj_R g RX9 cX9_make 4 (some .int) wsX9_make [] (rj_rm 12 0) F 0 ω (rj_fo (bX9_make_15 μ a0 a1) r j s) [(0, .ref (ω.2.2 47)), (1, .int a0), (2, .int a1), (3, .int (nI 16))] 66 []) → rj_R g RX9 cX9_make 4 (some .int) wsX9_make [] (rj_rm 12 0) F 0 ω s [(0, .ref (ω.2.2 47)), (1, .int a0), (2, .int a1), (3, .int (nI j))] 15 [] := by
  intro r
  induction r with
  | zero =>
    intro j s hj hq0 K
    have e0 : j = 16 := by omega
    have hge : 16 ≤ nI j := by
      rw [e0]
      exact Int32.le_refl _
    refine rj_iload_n 3 dX9_make_15 rfl rfl ?_
    refine rj_bipush (v := 16) dX9_make_16 rfl (by decide) ?_
    refine rj_icmp_ge dX9_make_18 rfl rfl (fun h4 => ?_) (fun h4 => ?_)
    · have e1 : nI j = nI 16 := by rw [e0]
      rw [e1]
      exact K
    · exact absurd hge h4
  | succ r ih =>
    intro j15 s15 hj hq0 K
    have hl15 : j15 < 16 := by omega
    have hg15 : ¬ 16 ≤ nI j15 := nI_ge hl15 (rj_bl rfl)
    have hqa := ra_fo_q (hq0 True.intro)
    unfold qX9_make_15 at hqa
    refine rj_iload_n 3 dX9_make_15 rfl rfl ?_
    refine rj_bipush (v := 16) dX9_make_16 rfl (by decide) ?_
    refine rj_icmp_ge dX9_make_18 rfl rfl (fun h1 => ?_) (fun h1 => ?_)
    · exact absurd h1 hg15
    · refine rj_aload_n 0 dX9_make_21 rfl rfl ?_
      refine rj_iload_n 3 dX9_make_22 rfl rfl ?_
      refine rj_iload_n 1 dX9_make_23 rfl rfl ?_
      refine rj_iload_n 2 dX9_make_24 rfl rfl ?_
      refine rj_cV (rest := []) (sX9_isMet (g := g) (ω := ω) hω s15 (nI j15) a0 a1   ) gX9_make_X9_isMet (rj_lt hω (k := 47) rfl) (rj_sh hω ly_47) rfl rfl hVX9_isMet ⟨Nat.le_of_ble_eq_true rfl, Nat.le_of_ble_eq_true rfl⟩ dX9_make_25 rfl rfl rfl (Nat.le_of_ble_eq_true rfl) rfl (Nat.le_of_ble_eq_true rfl) rfl ?_
      refine rj_if_eq dX9_make_28 rfl rfl (fun h2 => ?_) (fun h2 => ?_)
      · skip
        refine rj_iinc (v := nI (j15 + 1)) (l' := [(3, .int (nI (j15 + 1))), (0, .ref (ω.2.2 47)), (1, .int a0), (2, .int a1)]) 3 dX9_make_60 rfl rfl (nI_succ j15).symm (rj_bl rfl) rfl ?_
        refine rj_goto dX9_make_63 rfl ?_
        have e : bX9_make_15 μ a0 a1 j15 s15 = s15 := by unfold bX9_make_15; rw [if_pos h2]; try rfl
        exact rj_sub (l' := [(0, .ref (ω.2.2 47)), (1, .int a0), (2, .int a1), (3, .int (nI (j15 + 1)))]) [1, 2, 3, 0] rfl (ih (j15 + 1) s15 (by omega) (fun _ => ra_fo_n (hq0 True.intro) e) (by rw [rj_fo_s (r := r), e] at K; exact K))
      · have hq2 := (And.right hqa) h2
        refine rj_aload_n 0 dX9_make_31 rfl rfl ?_
        refine rj_getI (C0 := RX9) (T := TX9) (N := 8) (j := 5) dX9_make_32 rfl vX9_make_9 rfl (rj_lt hω (k := 47) rfl) (rj_sh hω ly_47) (by decide) kX9_make_22 rfl ?_
        refine rj_bipush (v := 6) dX9_make_35 rfl (by decide) ?_
        refine rj_icmp_ge dX9_make_37 rfl rfl (fun h3 => ?_) (fun h3 => ?_)
        · skip
          refine rj_iinc (v := nI (j15 + 1)) (l' := [(3, .int (nI (j15 + 1))), (0, .ref (ω.2.2 47)), (1, .int a0), (2, .int a1)]) 3 dX9_make_60 rfl rfl (nI_succ j15).symm (rj_bl rfl) rfl ?_
          refine rj_goto dX9_make_63 rfl ?_
          have e : bX9_make_15 μ a0 a1 j15 s15 = s15 := by unfold bX9_make_15; rw [if_neg h2]; rw [if_pos h3]; try rfl
          exact rj_sub (l' := [(0, .ref (ω.2.2 47)), (1, .int a0), (2, .int a1), (3, .int (nI (j15 + 1)))]) [1, 2, 3, 0] rfl (ih (j15 + 1) s15 (by omega) (fun _ => ra_fo_n (hq0 True.intro) e) (by rw [rj_fo_s (r := r), e] at K; exact K))
        · have hq4 := (And.right hq2) h3
          refine rj_aload_n 0 dX9_make_40 rfl rfl ?_
          refine rj_getR (C0 := RX9) (T := TX9) (N := 8) (j := 4) (r := 49) dX9_make_41 rfl vX9_make_9 rfl (rj_lt hω (k := 47) rfl) (rj_sh hω ly_47) (by decide) kX9_make_19 rfl ?_
          refine rj_aload_n 0 dX9_make_44 rfl rfl ?_
          refine rj_getI (C0 := RX9) (T := TX9) (N := 8) (j := 5) dX9_make_45 rfl vX9_make_9 rfl (rj_lt hω (k := 47) rfl) (rj_sh hω ly_47) (by decide) kX9_make_22 rfl ?_
          refine rj_iload_n 3 dX9_make_48 rfl rfl ?_
          refine rj_iast dX9_make_49 rfl (rj_lt hω (k := 49) rfl) (rj_sh hω ly_49) (And.left hq4) ?_
          refine rj_aload_n 0 dX9_make_50 rfl rfl ?_
          refine rj_dup dX9_make_51 rfl rfl ?_
          refine rj_getI (C0 := RX9) (T := TX9) (N := 8) (j := 5) dX9_make_52 rfl vX9_make_9 rfl (rj_lt hω (k := 47) rfl) (rj_sh hω ly_47) (by decide) kX9_make_22 rfl ?_
          refine rj_iconst (v := 1) dX9_make_55 rfl (by decide) ?_
          refine rj_iadd dX9_make_56 rfl ?_
          refine rj_putI (C0 := RX9) (T := TX9) (N := 8) (j := 5) dX9_make_57 rfl vX9_make_9 rfl (rj_lt hω (k := 47) rfl) (rj_sh hω ly_47) (by decide) kX9_make_22 tyX9 tyX9_ok nmX9 rfl rfl rfl rfl ?_
          refine rj_iinc (v := nI (j15 + 1)) (l' := [(3, .int (nI (j15 + 1))), (0, .ref (ω.2.2 47)), (1, .int a0), (2, .int a1)]) 3 dX9_make_60 rfl rfl (nI_succ j15).symm (rj_bl rfl) rfl ?_
          refine rj_goto dX9_make_63 rfl ?_
          have e : bX9_make_15 μ a0 a1 j15 s15 = (rj_pi (rj_pi s15 49 (s15.1 47 5).toNatClampNeg (nI j15)) 47 5 (((rj_pi s15 49 (s15.1 47 5).toNatClampNeg (nI j15)).1 47 5) + 1)) := by unfold bX9_make_15; rw [if_neg h2]; rw [if_neg h3]; try rfl
          exact rj_sub (l' := [(0, .ref (ω.2.2 47)), (1, .int a0), (2, .int a1), (3, .int (nI (j15 + 1)))]) [1, 2, 3, 0] rfl (ih (j15 + 1) (rj_pi (rj_pi s15 49 (s15.1 47 5).toNatClampNeg (nI j15)) 47 5 (((rj_pi s15 49 (s15.1 47 5).toNatClampNeg (nI j15)).1 47 5) + 1)) (by omega) (fun _ => ra_fo_n (hq0 True.intro) e) (by rw [rj_fo_s (r := r), e] at K; exact K))
noncomputable def fX9_make (μ : rj_M) (a0 : Int32) (a1 : Int32) : Int32 := ((rj_pi (mX9_tryGoals rz7 (rj_pi (rj_fo (bX9_make_15 μ a0 a1) 16 0 (rj_pi (mX11_fillRow μ 48 16 (-1)) 47 5 0)) 47 7 (((rj_fo (bX9_make_15 μ a0 a1) 16 0 (rj_pi (mX11_fillRow μ 48 16 (-1)) 47 5 0)).1 47 5) + 1)) 0 0) 47 2 1).1 47 7)
noncomputable def mX9_make (μ : rj_M) (a0 : Int32) (a1 : Int32) : rj_M := (rj_pi (mX9_tryGoals rz7 (rj_pi (rj_fo (bX9_make_15 μ a0 a1) 16 0 (rj_pi (mX11_fillRow μ 48 16 (-1)) 47 5 0)) 47 7 (((rj_fo (bX9_make_15 μ a0 a1) 16 0 (rj_pi (mX11_fillRow μ 48 16 (-1)) 47 5 0)).1 47 5) + 1)) 0 0) 47 2 1)
noncomputable def qX9_make (μ : rj_M) (a0 : Int32) (a1 : Int32) : Prop := ((True → ra_fo (qX9_make_15 μ a0 a1) (bX9_make_15 μ a0 a1) 16 0 (rj_pi (mX11_fillRow μ 48 16 (-1)) 47 5 0)) ∧ (qX9_tryGoals rz7 (rj_pi (rj_fo (bX9_make_15 μ a0 a1) 16 0 (rj_pi (mX11_fillRow μ 48 16 (-1)) 47 5 0)) 47 7 (((rj_fo (bX9_make_15 μ a0 a1) 16 0 (rj_pi (mX11_fillRow μ 48 16 (-1)) 47 5 0)).1 47 5) + 1)) 0 0 ∧ True))
set_option maxHeartbeats 40000000 in
set_option maxRecDepth 100000 in
theorem sX9_make {g : rj_G} {ω : rj_W} (hω : rj_ok ω) (μ : rj_M) (a0 : Int32) (a1 : Int32)   (hq : qX9_make μ a0 a1) : rj_Sp g yX9_make wsX9_make (rj_rm 12 0) [.ref (ω.2.2 47), .int a0, .int a1] ω μ (rj_D (.inl (some (.int (fX9_make μ a0 a1)))) ω (mX9_make μ a0 a1)) := by
  have hqa := hq
  unfold qX9_make at hqa
  refine rj_of' (cc := cX9_make) (nL := 4) (ret := (some .int)) (own := RX9) (l0 := [(0, .ref (ω.2.2 47)), (1, .int a0), (2, .int a1)]) rfl (by decide +kernel) rfl (Nat.le_of_ble_eq_true rfl) rfl ?_
  refine rj_aload_n 0 dX9_make_0 rfl rfl ?_
  refine rj_getR (C0 := RX9) (T := TX9) (N := 8) (j := 3) (r := 48) dX9_make_1 rfl vX9_make_9 rfl (rj_lt hω (k := 47) rfl) (rj_sh hω ly_47) (by decide) kX9_make_15 rfl ?_
  refine rj_iconst (v := (-1)) dX9_make_4 rfl (by decide) ?_
  refine rj_cSN (rest := []) (sX11_fillRow (g := g) (ω := ω) μ 48 16 (-1) (rj_lt hω (k := 48) rfl) (rj_sh hω ly_48) (rj_bl rfl)  ) ggX9_make_X11_fillRow jX9_make_59_i jX9_make_59_s jX9_make_59_n rfl hSX11_fillRow ⟨Nat.le_of_ble_eq_true rfl, Nat.le_of_ble_eq_true rfl⟩ dX9_make_5 rfl rfl rfl (Nat.le_of_ble_eq_true rfl) rfl (Nat.le_of_ble_eq_true rfl) rfl ?_
  refine rj_aload_n 0 dX9_make_8 rfl rfl ?_
  refine rj_iconst (v := 0) dX9_make_9 rfl (by decide) ?_
  refine rj_putI (C0 := RX9) (T := TX9) (N := 8) (j := 5) dX9_make_10 rfl vX9_make_9 rfl (rj_lt hω (k := 47) rfl) (rj_sh hω ly_47) (by decide) kX9_make_22 tyX9 tyX9_ok nmX9 rfl rfl rfl rfl ?_
  refine rj_iconst (v := 0) dX9_make_13 rfl (by decide) ?_
  refine rj_istore_n (l' := [(3, .int 0), (0, .ref (ω.2.2 47)), (1, .int a0), (2, .int a1)]) dX9_make_14 rfl (rj_bl rfl) rfl ?_
  refine rj_sub (l' := [(0, .ref (ω.2.2 47)), (1, .int a0), (2, .int a1), (3, .int (nI 0))]) [1, 2, 3, 0] rfl ?_
  refine lX9_make_15 hω μ a0 a1      16 0 (rj_pi (mX11_fillRow μ 48 16 (-1)) 47 5 0) rfl (And.left hqa) ?_
  refine rj_aload_n 0 dX9_make_66 rfl rfl ?_
  refine rj_aload_n 0 dX9_make_67 rfl rfl ?_
  refine rj_getI (C0 := RX9) (T := TX9) (N := 8) (j := 5) dX9_make_68 rfl vX9_make_9 rfl (rj_lt hω (k := 47) rfl) (rj_sh hω ly_47) (by decide) kX9_make_22 rfl ?_
  refine rj_iconst (v := 1) dX9_make_71 rfl (by decide) ?_
  refine rj_iadd dX9_make_72 rfl ?_
  refine rj_putI (C0 := RX9) (T := TX9) (N := 8) (j := 7) dX9_make_73 rfl vX9_make_9 rfl (rj_lt hω (k := 47) rfl) (rj_sh hω ly_47) (by decide) kX9_make_29 tyX9 tyX9_ok nmX9 rfl rfl rfl rfl ?_
  refine rj_aload_n 0 dX9_make_76 rfl rfl ?_
  refine rj_iconst (v := 0) dX9_make_77 rfl (by decide) ?_
  refine rj_iconst (v := 0) dX9_make_78 rfl (by decide) ?_
  refine rj_cS (rest := []) (sX9_tryGoalsF (g := g) (ω := ω) hω (rj_pi (rj_fo (bX9_make_15 μ a0 a1) 16 0 (rj_pi (mX11_fillRow μ 48 16 (-1)) 47 5 0)) 47 7 (((rj_fo (bX9_make_15 μ a0 a1) 16 0 (rj_pi (mX11_fillRow μ 48 16 (-1)) 47 5 0)).1 47 5) + 1)) 0 0   (And.left (And.right hqa))) gX9_make_X9_tryGoals rfl hSX9_tryGoals ⟨Nat.le_of_ble_eq_true rfl, Nat.le_of_ble_eq_true rfl⟩ dX9_make_79 rfl rfl rfl (Nat.le_of_ble_eq_true rfl) rfl (Nat.le_of_ble_eq_true rfl) rfl ?_
  refine rj_aload_n 0 dX9_make_82 rfl rfl ?_
  refine rj_iconst (v := 1) dX9_make_83 rfl (by decide) ?_
  refine rj_putI (C0 := RX9) (T := TX9) (N := 8) (j := 2) dX9_make_84 rfl vX9_make_9 rfl (rj_lt hω (k := 47) rfl) (rj_sh hω ly_47) (by decide) kX9_make_9 tyX9 tyX9_ok nmX9 rfl rfl (by decide) rfl ?_
  refine rj_aload_n 0 dX9_make_87 rfl rfl ?_
  refine rj_getI (C0 := RX9) (T := TX9) (N := 8) (j := 7) dX9_make_88 rfl vX9_make_9 rfl (rj_lt hω (k := 47) rfl) (rj_sh hω ly_47) (by decide) kX9_make_29 rfl ?_
  exact rj_iret dX9_make_91 rfl (Nat.le_of_ble_eq_true rfl) (Nat.le_of_ble_eq_true rfl) ⟨(by unfold fX9_make; rfl), rfl, (by unfold mX9_make; rfl)⟩
theorem hSX11_rain : yX11_rain.cls ≠ "java/lang/invoke/MethodHandle" ∧ yX11_rain.cls ≠ "java/lang/invoke/VarHandle" ∧ (parseMethodDescriptor yX11_rain.desc).map (fun d => d.parameters.length) = some 2 := by decide +kernel
theorem hVX11_rain : yX11_rain.cls = RX11 ∧ yX11_rain.cls ≠ "java/lang/invoke/MethodHandle" ∧ yX11_rain.cls ≠ "java/lang/invoke/VarHandle" ∧ (parseMethodDescriptor yX11_rain.desc).map (fun d => d.parameters.length) = some 2 := by decide +kernel
theorem vX11_rain_11 : ∀ w ∈ u_ws RX11 TX11 6, w ∈ wsX11_rain := by decide +kernel
theorem kX11_rain_40 : Cond.fieldLink RX11 40 (TX11 3).1 (TX11 3).2.1 (TX11 3).2.2.1 ∈ wsX11_rain := by decide +kernel
theorem xkX11_rain_108 : Cond.classLink RX11 108 "java/lang/IllegalStateException" ∈ wsX11_rain := by decide +kernel
theorem xiX11_rain_108 : Cond.initialized "java/lang/IllegalStateException" ∈ wsX11_rain := by decide +kernel
theorem xaX11_rain_112 : ∀ w ∈ (vx_atS RX11 112 "java/lang/IllegalStateException" rj_exn).filter goodWord, w ∈ wsX11_rain := by decide +kernel
theorem xbX11_rain_112 : ∀ w ∈ (vx_atS RX11 112 "java/lang/IllegalStateException" rj_exn).filter (fun w => !goodWord w), w ∈ Cond.castable "java/lang/IllegalStateException" "java/lang/IllegalStateException" :: rj_dc.map Cond.declares := by decide +kernel
theorem xgX11_rain_112 : ∀ w ∈ Cond.classLink RX11 108 "java/lang/IllegalStateException" :: Cond.initialized "java/lang/IllegalStateException" :: vx_atS RX11 112 "java/lang/IllegalStateException" rj_exn, vx_ot w = true := by decide +kernel
noncomputable def fX11_rain (μ : rj_M) (a0 : Int32) (a1 : Int32) : Int32 ⊕ String := (rj_bx (fX11_needRange μ a0 0 5759) (rj_bx (fX11_needRange μ a1 (a0 + 1) 5760) (if (fX9_countMet μ a0 a1) ≤ 6 then (.inl (fX9_make μ a0 a1)) else (.inr "java/lang/IllegalStateException"))))
noncomputable def mX11_rain (μ : rj_M) (a0 : Int32) (a1 : Int32) : rj_M := (rj_bm (fX11_needRange μ a0 0 5759) (rj_bm (fX11_needRange μ a1 (a0 + 1) 5760) (if (fX9_countMet μ a0 a1) ≤ 6 then (mX9_make μ a0 a1) else μ) μ) μ)
noncomputable def qX11_rain (μ : rj_M) (a0 : Int32) (a1 : Int32) : Prop := ((fX11_needRange μ a0 0 5759) = none → ((fX11_needRange μ a1 (a0 + 1) 5760) = none → ((((fX9_countMet μ a0 a1) ≤ 6) → (qX9_make μ a0 a1 ∧ True)) ∧ ((¬ ((fX9_countMet μ a0 a1) ≤ 6)) → True))))
set_option maxHeartbeats 40000000 in
set_option maxRecDepth 100000 in
theorem sX11_rain {g : rj_G} {ω : rj_W} (hω : rj_ok ω) (μ : rj_M) (a0 : Int32) (a1 : Int32)   (hq : qX11_rain μ a0 a1) : rj_Sp g yX11_rain wsX11_rain (rj_rm 13 3) [.ref (ω.2.2 0), .int a0, .int a1] ω μ (rj_D (rj_oi (fX11_rain μ a0 a1)) ω (mX11_rain μ a0 a1)) := by
  have hqa := hq
  unfold qX11_rain at hqa
  refine rj_of' (cc := cX11_rain) (nL := 3) (ret := (some .int)) (own := RX11) (l0 := [(0, .ref (ω.2.2 0)), (1, .int a0), (2, .int a1)]) rfl (by decide +kernel) rfl (Nat.le_of_ble_eq_true rfl) rfl ?_
  refine rj_iload_n 1 dX11_rain_0 rfl rfl ?_
  refine rj_iconst (v := 0) dX11_rain_1 rfl (by decide) ?_
  refine rj_sipush (v := 5759) dX11_rain_2 rfl (by decide) ?_
  refine rj_cSx (rest := []) (sX11_needRange (g := g) (ω := ω) hω μ a0 0 5759   ) gX11_rain_X11_needRange rfl hSX11_needRange ⟨Nat.le_of_ble_eq_true rfl, Nat.le_of_ble_eq_true rfl⟩ dX11_rain_5 rfl rfl rfl (Nat.le_of_ble_eq_true rfl) rfl (Nat.le_of_ble_eq_true rfl) (fun E hE2 => ?_) (fun hx1 => ?_)
  · exact ⟨(by unfold fX11_rain; try (rw [hE2]); try (simp only [rj_bx]); try rfl), rfl, (by unfold mX11_rain; try (rw [hE2]); try (simp only [rj_bm]); try rfl)⟩
  · have hq1 := hqa hx1
    refine rj_iload_n 2 dX11_rain_8 rfl rfl ?_
    refine rj_iload_n 1 dX11_rain_9 rfl rfl ?_
    refine rj_iconst (v := 1) dX11_rain_10 rfl (by decide) ?_
    refine rj_iadd dX11_rain_11 rfl ?_
    refine rj_sipush (v := 5760) dX11_rain_12 rfl (by decide) ?_
    refine rj_cSx (rest := []) (sX11_needRange (g := g) (ω := ω) hω μ a1 (a0 + 1) 5760   ) gX11_rain_X11_needRange rfl hSX11_needRange ⟨Nat.le_of_ble_eq_true rfl, Nat.le_of_ble_eq_true rfl⟩ dX11_rain_15 rfl rfl rfl (Nat.le_of_ble_eq_true rfl) rfl (Nat.le_of_ble_eq_true rfl) (fun E hE4 => ?_) (fun hx3 => ?_)
    · exact ⟨(by unfold fX11_rain; try (rw [hx1]); try (simp only [rj_bx]); try (rw [hE4]); try (simp only [rj_bx]); try rfl), rfl, (by unfold mX11_rain; try (rw [hx1]); try (simp only [rj_bm]); try (rw [hE4]); try (simp only [rj_bm]); try rfl)⟩
    · have hq2 := hq1 hx3
      refine rj_aload_n 0 dX11_rain_18 rfl rfl ?_
      refine rj_getR (C0 := RX11) (T := TX11) (N := 6) (j := 3) (r := 47) dX11_rain_19 rfl vX11_rain_11 rfl (rj_lt hω (k := 0) rfl) (rj_sh hω ly_0) (by decide) kX11_rain_40 rfl ?_
      refine rj_iload_n 1 dX11_rain_22 rfl rfl ?_
      refine rj_iload_n 2 dX11_rain_23 rfl rfl ?_
      refine rj_cV (rest := []) (sX9_countMet (g := g) (ω := ω) hω μ a0 a1   ) gX11_rain_X9_countMet (rj_lt hω (k := 47) rfl) (rj_sh hω ly_47) rfl rfl hVX9_countMet ⟨Nat.le_of_ble_eq_true rfl, Nat.le_of_ble_eq_true rfl⟩ dX11_rain_24 rfl rfl rfl (Nat.le_of_ble_eq_true rfl) rfl (Nat.le_of_ble_eq_true rfl) rfl ?_
      refine rj_bipush (v := 6) dX11_rain_27 rfl (by decide) ?_
      refine rj_icmp_le dX11_rain_29 rfl rfl (fun h5 => ?_) (fun h5 => ?_)
      · have hq3 := (And.left hq2) h5
        refine rj_aload_n 0 dX11_rain_43 rfl rfl ?_
        refine rj_getR (C0 := RX11) (T := TX11) (N := 6) (j := 3) (r := 47) dX11_rain_44 rfl vX11_rain_11 rfl (rj_lt hω (k := 0) rfl) (rj_sh hω ly_0) (by decide) kX11_rain_40 rfl ?_
        refine rj_iload_n 1 dX11_rain_47 rfl rfl ?_
        refine rj_iload_n 2 dX11_rain_48 rfl rfl ?_
        refine rj_cV (rest := []) (sX9_make (g := g) (ω := ω) hω μ a0 a1   (And.left hq3)) gX11_rain_X9_make (rj_lt hω (k := 47) rfl) (rj_sh hω ly_47) rfl rfl hVX9_make ⟨Nat.le_of_ble_eq_true rfl, Nat.le_of_ble_eq_true rfl⟩ dX11_rain_49 rfl rfl rfl (Nat.le_of_ble_eq_true rfl) rfl (Nat.le_of_ble_eq_true rfl) rfl ?_
        exact rj_iret dX11_rain_52 rfl (Nat.le_of_ble_eq_true rfl) (Nat.le_of_ble_eq_true rfl) ⟨(by unfold fX11_rain; try (rw [hx1]); try (simp only [rj_bx]); try (rw [hx3]); try (simp only [rj_bx]); try (rw [if_pos h5]); try rfl), rfl, (by unfold mX11_rain; try (rw [hx1]); try (simp only [rj_bm]); try (rw [hx3]); try (simp only [rj_bm]); try (rw [if_pos h5]); try rfl)⟩
      · skip
        exact rj_throwW (cls := "java/lang/IllegalStateException") (text := "the rain meets more than 6 acts") dX11_rain_32 rfl dX11_rain_35 rfl dX11_rain_36 rfl dX11_rain_39 rfl dX11_rain_42 (by decide +kernel) xkX11_rain_108 xiX11_rain_108 (by decide +kernel) xaX11_rain_112 xbX11_rain_112 (by decide) xgX11_rain_112 (Nat.le_of_ble_eq_true rfl) (Nat.le_of_ble_eq_true rfl) (Nat.le_of_ble_eq_true rfl) ⟨(by unfold fX11_rain; try (rw [hx1]); try (simp only [rj_bx]); try (rw [hx3]); try (simp only [rj_bx]); try (rw [if_neg h5]); try rfl), rfl, (by unfold mX11_rain; try (rw [hx1]); try (simp only [rj_bm]); try (rw [hx3]); try (simp only [rj_bm]); try (rw [if_neg h5]); try rfl)⟩
