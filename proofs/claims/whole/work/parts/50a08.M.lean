theorem rj_isAct {μ : rj_M} {a : Int32} (h : ¬ (fX12_isAct μ a) = 0) : vp_in a 16 := by
  unfold fX12_isAct at h
  by_cases h1 : (fX12_in μ a 0 15) = 0
  · rw [if_pos h1] at h; exact absurd rfl h
  · exact rj_isin h1 rfl rfl
theorem hSX12_keeps : yX12_keeps.cls ≠ "java/lang/invoke/MethodHandle" ∧ yX12_keeps.cls ≠ "java/lang/invoke/VarHandle" ∧ (parseMethodDescriptor yX12_keeps.desc).map (fun d => d.parameters.length) = some 0 := by decide +kernel
theorem hVX12_keeps : yX12_keeps.cls = RX12 ∧ yX12_keeps.cls ≠ "java/lang/invoke/MethodHandle" ∧ yX12_keeps.cls ≠ "java/lang/invoke/VarHandle" ∧ (parseMethodDescriptor yX12_keeps.desc).map (fun d => d.parameters.length) = some 0 := by decide +kernel
theorem vX12_keeps_12 : ∀ w ∈ u_ws RX12 TX12 16, w ∈ wsX12_keeps := by decide +kernel
theorem kX12_keeps_55 : Cond.fieldLink RX12 55 (TX12 3).1 (TX12 3).2.1 (TX12 3).2.2.1 ∈ wsX12_keeps := by decide +kernel
theorem kX12_keeps_9 : Cond.fieldLink RX12 9 (TX12 1).1 (TX12 1).2.1 (TX12 1).2.2.1 ∈ wsX12_keeps := by decide +kernel
theorem kX12_keeps_15 : Cond.fieldLink RX12 15 (TX12 2).1 (TX12 2).2.1 (TX12 2).2.2.1 ∈ wsX12_keeps := by decide +kernel
theorem jX12_keeps_58_0 : Cond.methodLink RX12 58 arraycopyName ∈ wsX12_keeps := by decide +kernel
theorem jX12_keeps_58_1 : Cond.native arraycopyName ∈ wsX12_keeps := by decide +kernel
theorem jX12_keeps_58_2 : Cond.static arraycopyName ∈ wsX12_keeps := by decide +kernel
theorem jX12_keeps_58_3 : Cond.initialized "java/lang/System" ∈ wsX12_keeps := by decide +kernel
theorem kX12_keeps_64 : Cond.fieldLink RX12 64 (TX12 11).1 (TX12 11).2.1 (TX12 11).2.2.1 ∈ wsX12_keeps := by decide +kernel
def bX12_keeps_18 (μ : rj_M) (j18 : Nat) (s18 : rj_M) : rj_M := (rj_pq s18 397 ((nI j18) - 1).toNatClampNeg ((s18.2.2.2 397 (nI j18).toNatClampNeg - 1) + 1))
def qX12_keeps_18 (μ : rj_M) (j18 : Nat) (s18 : rj_M) : Prop := (rj_row s18 397 8 398 406 (nI j18) ∧ vp_in ((nI j18) - 1) 8 ∧ True)
set_option maxHeartbeats 4000000 in
set_option maxRecDepth 100000 in
theorem lX12_keeps_18 {g : rj_G} {ω : rj_W} (hω : rj_ok ω) (μ : rj_M)     (h1 : ((μ.1 395 3) = 8)) {F : rj_F} : ∀ (r j : Nat) (s : rj_M), j + r = 8 → (True → ra_fo (qX12_keeps_18 μ) (bX12_keeps_18 μ) r j s) → (rj_R g RX12 cX12_keeps 3 none wsX12_keeps [] (rj_rm 1 0) F 0 ω (rj_fo (bX12_keeps_18 μ) r j s) [(0, .ref (ω.2.2 395)), (1, .ref (ω.2.2 (μ.2.2.2 397 (0 : Int32).toNatClampNeg - 1))), (2, .int (nI 8))] 44 []) → rj_R g RX12 cX12_keeps 3 none wsX12_keeps [] (rj_rm 1 0) F 0 ω s [(0, .ref (ω.2.2 395)), (1, .ref (ω.2.2 (μ.2.2.2 397 (0 : Int32).toNatClampNeg - 1))), (2, .int (nI j))] 18 [] := by
  intro r
  induction r with
  | zero =>
    intro j s hj hq0 K
    have e0 : j = 8 := by omega
    have hge : 8 ≤ nI j := by
      rw [e0]
      exact Int32.le_refl _
    refine rj_iload_n 2 dX12_keeps_18 rfl rfl ?_
    refine rj_bipush (v := 8) dX12_keeps_19 rfl (by decide) ?_
    refine rj_icmp_ge dX12_keeps_21 rfl rfl (fun h3 => ?_) (fun h3 => ?_)
    · have e1 : nI j = nI 8 := by rw [e0]
      rw [e1]
      exact K
    · exact absurd hge h3
  | succ r ih =>
    intro j18 s18 hj hq0 K
    have hl18 : j18 < 8 := by omega
    have hg18 : ¬ 8 ≤ nI j18 := nI_ge hl18 (rj_bl rfl)
    have hqa := ra_fo_q (hq0 True.intro)
    unfold qX12_keeps_18 at hqa
    refine rj_iload_n 2 dX12_keeps_18 rfl rfl ?_
    refine rj_bipush (v := 8) dX12_keeps_19 rfl (by decide) ?_
    refine rj_icmp_ge dX12_keeps_21 rfl rfl (fun h2 => ?_) (fun h2 => ?_)
    · exact absurd h2 hg18
    · refine rj_aload_n 0 dX12_keeps_24 rfl rfl ?_
      refine rj_getR (C0 := RX12) (T := TX12) (N := 16) (j := 2) (r := 397) dX12_keeps_25 rfl vX12_keeps_12 rfl (rj_lt hω (k := 395) rfl) (rj_sh hω ly_395) (by decide) kX12_keeps_15 rfl ?_
      refine rj_iload_n 2 dX12_keeps_28 rfl rfl ?_
      refine rj_iconst (v := 1) dX12_keeps_29 rfl (by decide) ?_
      refine rj_isub dX12_keeps_30 rfl ?_
      refine rj_aload_n 0 dX12_keeps_31 rfl rfl ?_
      refine rj_getR (C0 := RX12) (T := TX12) (N := 16) (j := 2) (r := 397) dX12_keeps_32 rfl vX12_keeps_12 rfl (rj_lt hω (k := 395) rfl) (rj_sh hω ly_395) (by decide) kX12_keeps_15 rfl ?_
      refine rj_iload_n 2 dX12_keeps_35 rfl rfl ?_
      have hrow5 := (And.left hqa)
      refine rj_qaldR dX12_keeps_36 rfl (rj_lt hω (k := 397) rfl) (rj_sh hω ly_397) hrow5 ?_
      refine rj_qastR dX12_keeps_37 rfl (rj_lt hω (k := 397) rfl) (rj_sh hω ly_397) (And.left (And.right hqa)) (rj_rowlt hω hrow5 rfl) (rj_rowsh397 hω hrow5) ?_
      refine rj_iinc (v := nI (j18 + 1)) (l' := [(2, .int (nI (j18 + 1))), (0, .ref (ω.2.2 395)), (1, .ref (ω.2.2 (μ.2.2.2 397 (0 : Int32).toNatClampNeg - 1)))]) 2 dX12_keeps_38 rfl rfl (nI_succ j18).symm (rj_bl rfl) rfl ?_
      refine rj_goto dX12_keeps_41 rfl ?_
      have e : bX12_keeps_18 μ j18 s18 = (rj_pq s18 397 ((nI j18) - 1).toNatClampNeg ((s18.2.2.2 397 (nI j18).toNatClampNeg - 1) + 1)) := by unfold bX12_keeps_18; rfl
      exact rj_sub (l' := [(0, .ref (ω.2.2 395)), (1, .ref (ω.2.2 (μ.2.2.2 397 (0 : Int32).toNatClampNeg - 1))), (2, .int (nI (j18 + 1)))]) [1, 2, 0] rfl (ih (j18 + 1) (rj_pq s18 397 ((nI j18) - 1).toNatClampNeg ((s18.2.2.2 397 (nI j18).toNatClampNeg - 1) + 1)) (by omega) (fun _ => ra_fo_n (hq0 True.intro) e) (by rw [rj_fo_s, e] at K; exact K))
def mX12_keeps (μ : rj_M) : rj_M := (if (μ.1 395 3) = 8 then (rj_pi (rj_pi (rj_ri (rj_pi (rj_pq (rj_fo (bX12_keeps_18 μ) 7 1 μ) 397 (7 : Int32).toNatClampNeg ((μ.2.2.2 397 (0 : Int32).toNatClampNeg - 1) + 1)) 395 3 (((rj_pq (rj_fo (bX12_keeps_18 μ) 7 1 μ) 397 (7 : Int32).toNatClampNeg ((μ.2.2.2 397 (0 : Int32).toNatClampNeg - 1) + 1)).1 395 3) - 1)) ((rj_pi (rj_pq (rj_fo (bX12_keeps_18 μ) 7 1 μ) 397 (7 : Int32).toNatClampNeg ((μ.2.2.2 397 (0 : Int32).toNatClampNeg - 1) + 1)) 395 3 (((rj_pq (rj_fo (bX12_keeps_18 μ) 7 1 μ) 397 (7 : Int32).toNatClampNeg ((μ.2.2.2 397 (0 : Int32).toNatClampNeg - 1) + 1)).1 395 3) - 1)).2.2.2 397 ((rj_pi (rj_pq (rj_fo (bX12_keeps_18 μ) 7 1 μ) 397 (7 : Int32).toNatClampNeg ((μ.2.2.2 397 (0 : Int32).toNatClampNeg - 1) + 1)) 395 3 (((rj_pq (rj_fo (bX12_keeps_18 μ) 7 1 μ) 397 (7 : Int32).toNatClampNeg ((μ.2.2.2 397 (0 : Int32).toNatClampNeg - 1) + 1)).1 395 3) - 1)).1 395 3).toNatClampNeg - 1) (va_cpy ((rj_pi (rj_pq (rj_fo (bX12_keeps_18 μ) 7 1 μ) 397 (7 : Int32).toNatClampNeg ((μ.2.2.2 397 (0 : Int32).toNatClampNeg - 1) + 1)) 395 3 (((rj_pq (rj_fo (bX12_keeps_18 μ) 7 1 μ) 397 (7 : Int32).toNatClampNeg ((μ.2.2.2 397 (0 : Int32).toNatClampNeg - 1) + 1)).1 395 3) - 1)).1 396) ((rj_pi (rj_pq (rj_fo (bX12_keeps_18 μ) 7 1 μ) 397 (7 : Int32).toNatClampNeg ((μ.2.2.2 397 (0 : Int32).toNatClampNeg - 1) + 1)) 395 3 (((rj_pq (rj_fo (bX12_keeps_18 μ) 7 1 μ) 397 (7 : Int32).toNatClampNeg ((μ.2.2.2 397 (0 : Int32).toNatClampNeg - 1) + 1)).1 395 3) - 1)).1 ((rj_pi (rj_pq (rj_fo (bX12_keeps_18 μ) 7 1 μ) 397 (7 : Int32).toNatClampNeg ((μ.2.2.2 397 (0 : Int32).toNatClampNeg - 1) + 1)) 395 3 (((rj_pq (rj_fo (bX12_keeps_18 μ) 7 1 μ) 397 (7 : Int32).toNatClampNeg ((μ.2.2.2 397 (0 : Int32).toNatClampNeg - 1) + 1)).1 395 3) - 1)).2.2.2 397 ((rj_pi (rj_pq (rj_fo (bX12_keeps_18 μ) 7 1 μ) 397 (7 : Int32).toNatClampNeg ((μ.2.2.2 397 (0 : Int32).toNatClampNeg - 1) + 1)) 395 3 (((rj_pq (rj_fo (bX12_keeps_18 μ) 7 1 μ) 397 (7 : Int32).toNatClampNeg ((μ.2.2.2 397 (0 : Int32).toNatClampNeg - 1) + 1)).1 395 3) - 1)).1 395 3).toNatClampNeg - 1)) 0 0 625)) 395 3 (((rj_ri (rj_pi (rj_pq (rj_fo (bX12_keeps_18 μ) 7 1 μ) 397 (7 : Int32).toNatClampNeg ((μ.2.2.2 397 (0 : Int32).toNatClampNeg - 1) + 1)) 395 3 (((rj_pq (rj_fo (bX12_keeps_18 μ) 7 1 μ) 397 (7 : Int32).toNatClampNeg ((μ.2.2.2 397 (0 : Int32).toNatClampNeg - 1) + 1)).1 395 3) - 1)) ((rj_pi (rj_pq (rj_fo (bX12_keeps_18 μ) 7 1 μ) 397 (7 : Int32).toNatClampNeg ((μ.2.2.2 397 (0 : Int32).toNatClampNeg - 1) + 1)) 395 3 (((rj_pq (rj_fo (bX12_keeps_18 μ) 7 1 μ) 397 (7 : Int32).toNatClampNeg ((μ.2.2.2 397 (0 : Int32).toNatClampNeg - 1) + 1)).1 395 3) - 1)).2.2.2 397 ((rj_pi (rj_pq (rj_fo (bX12_keeps_18 μ) 7 1 μ) 397 (7 : Int32).toNatClampNeg ((μ.2.2.2 397 (0 : Int32).toNatClampNeg - 1) + 1)) 395 3 (((rj_pq (rj_fo (bX12_keeps_18 μ) 7 1 μ) 397 (7 : Int32).toNatClampNeg ((μ.2.2.2 397 (0 : Int32).toNatClampNeg - 1) + 1)).1 395 3) - 1)).1 395 3).toNatClampNeg - 1) (va_cpy ((rj_pi (rj_pq (rj_fo (bX12_keeps_18 μ) 7 1 μ) 397 (7 : Int32).toNatClampNeg ((μ.2.2.2 397 (0 : Int32).toNatClampNeg - 1) + 1)) 395 3 (((rj_pq (rj_fo (bX12_keeps_18 μ) 7 1 μ) 397 (7 : Int32).toNatClampNeg ((μ.2.2.2 397 (0 : Int32).toNatClampNeg - 1) + 1)).1 395 3) - 1)).1 396) ((rj_pi (rj_pq (rj_fo (bX12_keeps_18 μ) 7 1 μ) 397 (7 : Int32).toNatClampNeg ((μ.2.2.2 397 (0 : Int32).toNatClampNeg - 1) + 1)) 395 3 (((rj_pq (rj_fo (bX12_keeps_18 μ) 7 1 μ) 397 (7 : Int32).toNatClampNeg ((μ.2.2.2 397 (0 : Int32).toNatClampNeg - 1) + 1)).1 395 3) - 1)).1 ((rj_pi (rj_pq (rj_fo (bX12_keeps_18 μ) 7 1 μ) 397 (7 : Int32).toNatClampNeg ((μ.2.2.2 397 (0 : Int32).toNatClampNeg - 1) + 1)) 395 3 (((rj_pq (rj_fo (bX12_keeps_18 μ) 7 1 μ) 397 (7 : Int32).toNatClampNeg ((μ.2.2.2 397 (0 : Int32).toNatClampNeg - 1) + 1)).1 395 3) - 1)).2.2.2 397 ((rj_pi (rj_pq (rj_fo (bX12_keeps_18 μ) 7 1 μ) 397 (7 : Int32).toNatClampNeg ((μ.2.2.2 397 (0 : Int32).toNatClampNeg - 1) + 1)) 395 3 (((rj_pq (rj_fo (bX12_keeps_18 μ) 7 1 μ) 397 (7 : Int32).toNatClampNeg ((μ.2.2.2 397 (0 : Int32).toNatClampNeg - 1) + 1)).1 395 3) - 1)).1 395 3).toNatClampNeg - 1)) 0 0 625)).1 395 3) + 1)) 395 11 0) else (rj_pi (rj_pi (rj_ri μ (μ.2.2.2 397 (μ.1 395 3).toNatClampNeg - 1) (va_cpy (μ.1 396) (μ.1 (μ.2.2.2 397 (μ.1 395 3).toNatClampNeg - 1)) 0 0 625)) 395 3 (((rj_ri μ (μ.2.2.2 397 (μ.1 395 3).toNatClampNeg - 1) (va_cpy (μ.1 396) (μ.1 (μ.2.2.2 397 (μ.1 395 3).toNatClampNeg - 1)) 0 0 625)).1 395 3) + 1)) 395 11 0))
def qX12_keeps (μ : rj_M) : Prop := ((((μ.1 395 3) = 8) → (rj_row μ 397 8 398 406 0 ∧ ((True → ra_fo (qX12_keeps_18 μ) (bX12_keeps_18 μ) 7 1 μ) ∧ (rj_row (rj_pi (rj_pq (rj_fo (bX12_keeps_18 μ) 7 1 μ) 397 (7 : Int32).toNatClampNeg ((μ.2.2.2 397 (0 : Int32).toNatClampNeg - 1) + 1)) 395 3 (((rj_pq (rj_fo (bX12_keeps_18 μ) 7 1 μ) 397 (7 : Int32).toNatClampNeg ((μ.2.2.2 397 (0 : Int32).toNatClampNeg - 1) + 1)).1 395 3) - 1)) 397 8 398 406 ((rj_pi (rj_pq (rj_fo (bX12_keeps_18 μ) 7 1 μ) 397 (7 : Int32).toNatClampNeg ((μ.2.2.2 397 (0 : Int32).toNatClampNeg - 1) + 1)) 395 3 (((rj_pq (rj_fo (bX12_keeps_18 μ) 7 1 μ) 397 (7 : Int32).toNatClampNeg ((μ.2.2.2 397 (0 : Int32).toNatClampNeg - 1) + 1)).1 395 3) - 1)).1 395 3) ∧ True)))) ∧ ((¬ ((μ.1 395 3) = 8)) → (rj_row μ 397 8 398 406 (μ.1 395 3) ∧ True)))
set_option maxHeartbeats 40000000 in
set_option maxRecDepth 100000 in
theorem sX12_keeps {g : rj_G} {ω : rj_W} (hω : rj_ok ω) (μ : rj_M)   (hq : qX12_keeps μ) : rj_Sp g yX12_keeps wsX12_keeps (rj_rm 1 0) [.ref (ω.2.2 395)] ω μ (rj_D (.inl none) ω (mX12_keeps μ)) := by
  have hqa := hq
  unfold qX12_keeps at hqa
  refine rj_of' (cc := cX12_keeps) (nL := 3) (ret := none) (own := RX12) (l0 := [(0, .ref (ω.2.2 395))]) rfl (by decide +kernel) rfl (Nat.le_of_ble_eq_true rfl) rfl ?_
  refine rj_aload_n 0 dX12_keeps_0 rfl rfl ?_
  refine rj_getI (C0 := RX12) (T := TX12) (N := 16) (j := 3) dX12_keeps_1 rfl vX12_keeps_12 rfl (rj_lt hω (k := 395) rfl) (rj_sh hω ly_395) (by decide) kX12_keeps_55 rfl ?_
  refine rj_bipush (v := 8) dX12_keeps_4 rfl (by decide) ?_
  refine rj_icmp_ne dX12_keeps_6 rfl rfl (fun h1 => ?_) (fun h1 => ?_)
  · have hq1 := (And.right hqa) h1
    refine rj_aload_n 0 dX12_keeps_62 rfl rfl ?_
    refine rj_getR (C0 := RX12) (T := TX12) (N := 16) (j := 1) (r := 396) dX12_keeps_63 rfl vX12_keeps_12 rfl (rj_lt hω (k := 395) rfl) (rj_sh hω ly_395) (by decide) kX12_keeps_9 rfl ?_
    refine rj_iconst (v := 0) dX12_keeps_66 rfl (by decide) ?_
    refine rj_aload_n 0 dX12_keeps_67 rfl rfl ?_
    refine rj_getR (C0 := RX12) (T := TX12) (N := 16) (j := 2) (r := 397) dX12_keeps_68 rfl vX12_keeps_12 rfl (rj_lt hω (k := 395) rfl) (rj_sh hω ly_395) (by decide) kX12_keeps_15 rfl ?_
    refine rj_aload_n 0 dX12_keeps_71 rfl rfl ?_
    refine rj_getI (C0 := RX12) (T := TX12) (N := 16) (j := 3) dX12_keeps_72 rfl vX12_keeps_12 rfl (rj_lt hω (k := 395) rfl) (rj_sh hω ly_395) (by decide) kX12_keeps_55 rfl ?_
    have hrow2 := (And.left hq1)
    refine rj_qaldR dX12_keeps_75 rfl (rj_lt hω (k := 397) rfl) (rj_sh hω ly_397) hrow2 ?_
    refine rj_iconst (v := 0) dX12_keeps_76 rfl (by decide) ?_
    refine rj_sipush (v := 625) dX12_keeps_77 rfl (by decide) ?_
    refine rj_copyi (mm := 625) dX12_keeps_80 rfl jX12_keeps_58_0 jX12_keeps_58_1 jX12_keeps_58_2 jX12_keeps_58_3 (rj_lt hω (k := 396) rfl) (rj_sh hω ly_396) (rj_rowlt hω hrow2 rfl) (rj_rowsh397 hω hrow2) (Nat.le_of_ble_eq_true rfl) (Nat.le_of_ble_eq_true rfl) (rj_bl rfl) (Nat.le_of_ble_eq_true rfl) (by decide) ?_
    refine rj_aload_n 0 dX12_keeps_83 rfl rfl ?_
    refine rj_dup dX12_keeps_84 rfl rfl ?_
    refine rj_getI (C0 := RX12) (T := TX12) (N := 16) (j := 3) dX12_keeps_85 rfl vX12_keeps_12 rfl (rj_lt hω (k := 395) rfl) (rj_sh hω ly_395) (by decide) kX12_keeps_55 rfl ?_
    refine rj_iconst (v := 1) dX12_keeps_88 rfl (by decide) ?_
    refine rj_iadd dX12_keeps_89 rfl ?_
    refine rj_putI (C0 := RX12) (T := TX12) (N := 16) (j := 3) dX12_keeps_90 rfl vX12_keeps_12 rfl (rj_lt hω (k := 395) rfl) (rj_sh hω ly_395) (by decide) kX12_keeps_55 tyX12 tyX12_ok nmX12 rfl rfl rfl rfl ?_
    refine rj_aload_n 0 dX12_keeps_93 rfl rfl ?_
    refine rj_iconst (v := 0) dX12_keeps_94 rfl (by decide) ?_
    refine rj_putI (C0 := RX12) (T := TX12) (N := 16) (j := 11) dX12_keeps_95 rfl vX12_keeps_12 rfl (rj_lt hω (k := 395) rfl) (rj_sh hω ly_395) (by decide) kX12_keeps_64 tyX12 tyX12_ok nmX12 rfl rfl (by decide) rfl ?_
    exact rj_vret dX12_keeps_98 rfl (Nat.le_of_ble_eq_true rfl) (Nat.le_of_ble_eq_true rfl) ⟨rfl, rfl, (by unfold mX12_keeps; rw [if_neg h1]; try rfl)⟩
  · have hq3 := (And.left hqa) h1
    refine rj_aload_n 0 dX12_keeps_9 rfl rfl ?_
    refine rj_getR (C0 := RX12) (T := TX12) (N := 16) (j := 2) (r := 397) dX12_keeps_10 rfl vX12_keeps_12 rfl (rj_lt hω (k := 395) rfl) (rj_sh hω ly_395) (by decide) kX12_keeps_15 rfl ?_
    refine rj_iconst (v := 0) dX12_keeps_13 rfl (by decide) ?_
    have hrow4 := (And.left hq3)
    refine rj_qaldR dX12_keeps_14 rfl (rj_lt hω (k := 397) rfl) (rj_sh hω ly_397) hrow4 ?_
    refine rj_astore_n (l' := [(1, .ref (ω.2.2 (μ.2.2.2 397 (0 : Int32).toNatClampNeg - 1))), (0, .ref (ω.2.2 395))]) dX12_keeps_15 rfl (rj_bl rfl) rfl ?_
    refine rj_iconst (v := 1) dX12_keeps_16 rfl (by decide) ?_
    refine rj_istore_n (l' := [(2, .int 1), (1, .ref (ω.2.2 (μ.2.2.2 397 (0 : Int32).toNatClampNeg - 1))), (0, .ref (ω.2.2 395))]) dX12_keeps_17 rfl (rj_bl rfl) rfl ?_
    refine rj_sub (l' := [(0, .ref (ω.2.2 395)), (1, .ref (ω.2.2 (μ.2.2.2 397 (0 : Int32).toNatClampNeg - 1))), (2, .int (nI 1))]) [2, 1, 0] rfl ?_
    refine lX12_keeps_18 hω μ     h1 7 1 μ rfl (And.left (And.right hq3)) ?_
    refine rj_aload_n 0 dX12_keeps_44 rfl rfl ?_
    refine rj_getR (C0 := RX12) (T := TX12) (N := 16) (j := 2) (r := 397) dX12_keeps_45 rfl vX12_keeps_12 rfl (rj_lt hω (k := 395) rfl) (rj_sh hω ly_395) (by decide) kX12_keeps_15 rfl ?_
    refine rj_bipush (v := 7) dX12_keeps_48 rfl (by decide) ?_
    refine rj_aload_n 1 dX12_keeps_50 rfl rfl ?_
    refine rj_qastR dX12_keeps_51 rfl (rj_lt hω (k := 397) rfl) (rj_sh hω ly_397) (vp_in_nI (n := 7) (rj_bl rfl) (rj_bl rfl)) (rj_rowlt hω hrow4 rfl) (rj_rowsh397 hω hrow4) ?_
    refine rj_aload_n 0 dX12_keeps_52 rfl rfl ?_
    refine rj_dup dX12_keeps_53 rfl rfl ?_
    refine rj_getI (C0 := RX12) (T := TX12) (N := 16) (j := 3) dX12_keeps_54 rfl vX12_keeps_12 rfl (rj_lt hω (k := 395) rfl) (rj_sh hω ly_395) (by decide) kX12_keeps_55 rfl ?_
    refine rj_iconst (v := 1) dX12_keeps_57 rfl (by decide) ?_
    refine rj_isub dX12_keeps_58 rfl ?_
    refine rj_putI (C0 := RX12) (T := TX12) (N := 16) (j := 3) dX12_keeps_59 rfl vX12_keeps_12 rfl (rj_lt hω (k := 395) rfl) (rj_sh hω ly_395) (by decide) kX12_keeps_55 tyX12 tyX12_ok nmX12 rfl rfl rfl rfl ?_
    refine rj_aload_n 0 dX12_keeps_62 rfl rfl ?_
    refine rj_getR (C0 := RX12) (T := TX12) (N := 16) (j := 1) (r := 396) dX12_keeps_63 rfl vX12_keeps_12 rfl (rj_lt hω (k := 395) rfl) (rj_sh hω ly_395) (by decide) kX12_keeps_9 rfl ?_
    refine rj_iconst (v := 0) dX12_keeps_66 rfl (by decide) ?_
    refine rj_aload_n 0 dX12_keeps_67 rfl rfl ?_
    refine rj_getR (C0 := RX12) (T := TX12) (N := 16) (j := 2) (r := 397) dX12_keeps_68 rfl vX12_keeps_12 rfl (rj_lt hω (k := 395) rfl) (rj_sh hω ly_395) (by decide) kX12_keeps_15 rfl ?_
    refine rj_aload_n 0 dX12_keeps_71 rfl rfl ?_
    refine rj_getI (C0 := RX12) (T := TX12) (N := 16) (j := 3) dX12_keeps_72 rfl vX12_keeps_12 rfl (rj_lt hω (k := 395) rfl) (rj_sh hω ly_395) (by decide) kX12_keeps_55 rfl ?_
    have hrow6 := (And.left (And.right (And.right hq3)))
    refine rj_qaldR dX12_keeps_75 rfl (rj_lt hω (k := 397) rfl) (rj_sh hω ly_397) hrow6 ?_
    refine rj_iconst (v := 0) dX12_keeps_76 rfl (by decide) ?_
    refine rj_sipush (v := 625) dX12_keeps_77 rfl (by decide) ?_
    refine rj_copyi (mm := 625) dX12_keeps_80 rfl jX12_keeps_58_0 jX12_keeps_58_1 jX12_keeps_58_2 jX12_keeps_58_3 (rj_lt hω (k := 396) rfl) (rj_sh hω ly_396) (rj_rowlt hω hrow6 rfl) (rj_rowsh397 hω hrow6) (Nat.le_of_ble_eq_true rfl) (Nat.le_of_ble_eq_true rfl) (rj_bl rfl) (Nat.le_of_ble_eq_true rfl) (by decide) ?_
    refine rj_aload_n 0 dX12_keeps_83 rfl rfl ?_
    refine rj_dup dX12_keeps_84 rfl rfl ?_
    refine rj_getI (C0 := RX12) (T := TX12) (N := 16) (j := 3) dX12_keeps_85 rfl vX12_keeps_12 rfl (rj_lt hω (k := 395) rfl) (rj_sh hω ly_395) (by decide) kX12_keeps_55 rfl ?_
    refine rj_iconst (v := 1) dX12_keeps_88 rfl (by decide) ?_
    refine rj_iadd dX12_keeps_89 rfl ?_
    refine rj_putI (C0 := RX12) (T := TX12) (N := 16) (j := 3) dX12_keeps_90 rfl vX12_keeps_12 rfl (rj_lt hω (k := 395) rfl) (rj_sh hω ly_395) (by decide) kX12_keeps_55 tyX12 tyX12_ok nmX12 rfl rfl rfl rfl ?_
    refine rj_aload_n 0 dX12_keeps_93 rfl rfl ?_
    refine rj_iconst (v := 0) dX12_keeps_94 rfl (by decide) ?_
    refine rj_putI (C0 := RX12) (T := TX12) (N := 16) (j := 11) dX12_keeps_95 rfl vX12_keeps_12 rfl (rj_lt hω (k := 395) rfl) (rj_sh hω ly_395) (by decide) kX12_keeps_64 tyX12 tyX12_ok nmX12 rfl rfl (by decide) rfl ?_
    exact rj_vret dX12_keeps_98 rfl (Nat.le_of_ble_eq_true rfl) (Nat.le_of_ble_eq_true rfl) ⟨rfl, rfl, (by unfold mX12_keeps; rw [if_pos h1]; try rfl)⟩
theorem hSX12_sets : yX12_sets.cls ≠ "java/lang/invoke/MethodHandle" ∧ yX12_sets.cls ≠ "java/lang/invoke/VarHandle" ∧ (parseMethodDescriptor yX12_sets.desc).map (fun d => d.parameters.length) = some 2 := by decide +kernel
theorem hVX12_sets : yX12_sets.cls = RX12 ∧ yX12_sets.cls ≠ "java/lang/invoke/MethodHandle" ∧ yX12_sets.cls ≠ "java/lang/invoke/VarHandle" ∧ (parseMethodDescriptor yX12_sets.desc).map (fun d => d.parameters.length) = some 2 := by decide +kernel
theorem vX12_sets_12 : ∀ w ∈ u_ws RX12 TX12 16, w ∈ wsX12_sets := by decide +kernel
theorem kX12_sets_9 : Cond.fieldLink RX12 9 (TX12 1).1 (TX12 1).2.1 (TX12 1).2.2.1 ∈ wsX12_sets := by decide +kernel
def fX12_sets (μ : rj_M) (a0 : Int32) (a1 : Int32) : Int32 := ((mX12_keeps μ).1 396 a0.toNatClampNeg)
def mX12_sets (μ : rj_M) (a0 : Int32) (a1 : Int32) : rj_M := (rj_pi (mX12_keeps μ) 396 a0.toNatClampNeg a1)
def qX12_sets (μ : rj_M) (a0 : Int32) (a1 : Int32) : Prop := (qX12_keeps μ ∧ True)
set_option maxHeartbeats 40000000 in
set_option maxRecDepth 100000 in
theorem sX12_sets {g : rj_G} {ω : rj_W} (hω : rj_ok ω) (μ : rj_M) (a0 : Int32) (a1 : Int32)  (hp_a0 : vp_in a0 625)  (hq : qX12_sets μ a0 a1) : rj_Sp g yX12_sets wsX12_sets (rj_rm 2 0) [.ref (ω.2.2 395), .int a0, .int a1] ω μ (rj_D (.inl (some (.int (fX12_sets μ a0 a1)))) ω (mX12_sets μ a0 a1)) := by
  have hqa := hq
  unfold qX12_sets at hqa
  refine rj_of' (cc := cX12_sets) (nL := 4) (ret := (some .int)) (own := RX12) (l0 := [(0, .ref (ω.2.2 395)), (1, .int a0), (2, .int a1)]) rfl (by decide +kernel) rfl (Nat.le_of_ble_eq_true rfl) rfl ?_
  refine rj_aload_n 0 dX12_sets_0 rfl rfl ?_
  refine rj_cV (rest := []) (sX12_keeps (g := g) (ω := ω) hω μ   (And.left hqa)) gX12_sets_X12_keeps (rj_lt hω (k := 395) rfl) (rj_sh hω ly_395) rfl rfl hVX12_keeps ⟨Nat.le_of_ble_eq_true rfl, Nat.le_of_ble_eq_true rfl⟩ dX12_sets_1 rfl rfl rfl (Nat.le_of_ble_eq_true rfl) rfl (Nat.le_of_ble_eq_true rfl) rfl ?_
  refine rj_aload_n 0 dX12_sets_4 rfl rfl ?_
  refine rj_getR (C0 := RX12) (T := TX12) (N := 16) (j := 1) (r := 396) dX12_sets_5 rfl vX12_sets_12 rfl (rj_lt hω (k := 395) rfl) (rj_sh hω ly_395) (by decide) kX12_sets_9 rfl ?_
  refine rj_iload_n 1 dX12_sets_8 rfl rfl ?_
  refine rj_iald dX12_sets_9 rfl (rj_lt hω (k := 396) rfl) (rj_sh hω ly_396) hp_a0 ?_
  refine rj_istore_n (l' := [(3, .int ((mX12_keeps μ).1 396 a0.toNatClampNeg)), (0, .ref (ω.2.2 395)), (1, .int a0), (2, .int a1)]) dX12_sets_10 rfl (rj_bl rfl) rfl ?_
  refine rj_aload_n 1 dX12_sets_11 rfl rfl ?_
  refine rj_getR (C0 := RX12) (T := TX12) (N := 16) (j := 1) (r := 396) dX12_sets_12 rfl vX12_sets_12 rfl (rj_lt hω (k := 395) rfl) (rj_sh hω ly_395) (by decide) kX12_sets_9 rfl ?_
  refine rj_iload_n 2 dX12_sets_15 rfl rfl ?_
  refine rj_iload_n 3 dX12_sets_16 rfl rfl ?_
  refine rj_iast dX12_sets_17 rfl (rj_lt hω (k := 396) rfl) (rj_sh hω ly_396) hp_a0 ?_
  refine rj_iload_n 0 dX12_sets_18 rfl rfl ?_
  exact rj_iret dX12_sets_19 rfl (Nat.le_of_ble_eq_true rfl) (Nat.le_of_ble_eq_true rfl) ⟨(by unfold fX12_sets; rfl), rfl, (by unfold mX12_sets; rfl)⟩
