theorem hSX12_weekday : yX12_weekday.cls ≠ "java/lang/invoke/MethodHandle" ∧ yX12_weekday.cls ≠ "java/lang/invoke/VarHandle" ∧ (parseMethodDescriptor yX12_weekday.desc).map (fun d => d.parameters.length) = some 3 := by decide +kernel
theorem hVX12_weekday : yX12_weekday.cls = RX12 ∧ yX12_weekday.cls ≠ "java/lang/invoke/MethodHandle" ∧ yX12_weekday.cls ≠ "java/lang/invoke/VarHandle" ∧ (parseMethodDescriptor yX12_weekday.desc).map (fun d => d.parameters.length) = some 3 := by decide +kernel
def bX12_weekday_33 (μ : rj_M) (a0 : Int32) (a1 : Int32) (a2 : Int32) (j33 : Nat) (s33 : Int32) : Int32 := (s33 + (fX12_daysOf μ a0 (nI j33)))
set_option maxHeartbeats 4000000 in
set_option maxRecDepth 100000 in
theorem lX12_weekday_33 {g : rj_G} {ω : rj_W} (hω : rj_ok ω) (μ : rj_M) (a0 : Int32) (a1 : Int32) (a2 : Int32)      {F : rj_F} : ∀ (r j : Nat) (s : Int32), r = a1.toInt.toNat - j → j < 2 ^ 31 → (rj_R g RX12 cX12_weekday 6 (some .int) wsX12_weekday [] (rj_rm 2 0) F 0 ω μ [(0, .int a0), (1, .int a1), (2, .int a2), (3, .int (a0 - 1)), (4, .int (rj_fo (bX12_weekday_33 μ a0 a1 a2) r j s))] 56 []) → rj_R g RX12 cX12_weekday 6 (some .int) wsX12_weekday [] (rj_rm 2 0) F 0 ω μ [(0, .int a0), (1, .int a1), (2, .int a2), (3, .int (a0 - 1)), (4, .int s), (5, .int (nI j))] 33 [] := by
  intro r
  induction r with
  | zero =>
    intro j s hj hJ K
    have e0 : a1.toInt.toNat ≤ j := by omega
    have hge : a1 ≤ nI j := (rj_leN hJ).mpr e0
    refine rj_iload 5 dX12_weekday_33 rfl rfl ?_
    refine rj_iload_n 1 dX12_weekday_35 rfl rfl ?_
    refine rj_icmp_ge dX12_weekday_36 rfl rfl (fun h2 => ?_) (fun h2 => ?_)
    · refine rj_sub (l' := [(0, .int a0), (1, .int a1), (2, .int a2), (3, .int (a0 - 1)), (4, .int s)]) [0, 1, 2, 3, 4] rfl ?_
      exact K
    · exact absurd hge h2
  | succ r ih =>
    intro j33 s33 hj hJ K
    have hl33 : j33 < a1.toInt.toNat := by omega
    have hg33 : ¬ a1 ≤ nI j33 := fun z => absurd ((rj_leN hJ).mp z) (by omega)
    have hN := rj_tN a1
    refine rj_iload 5 dX12_weekday_33 rfl rfl ?_
    refine rj_iload_n 1 dX12_weekday_35 rfl rfl ?_
    refine rj_icmp_ge dX12_weekday_36 rfl rfl (fun h1 => ?_) (fun h1 => ?_)
    · exact absurd h1 hg33
    · refine rj_iload 4 dX12_weekday_39 rfl rfl ?_
      refine rj_iload_n 0 dX12_weekday_41 rfl rfl ?_
      refine rj_iload 5 dX12_weekday_42 rfl rfl ?_
      refine rj_cS (rest := [.int s33]) (sX12_daysOf (g := g) (ω := ω) hω μ a0 (nI j33)   ) gX12_weekday_X12_daysOf rfl hSX12_daysOf ⟨Nat.le_of_ble_eq_true rfl, Nat.le_of_ble_eq_true rfl⟩ dX12_weekday_44 rfl rfl rfl (Nat.le_of_ble_eq_true rfl) rfl (Nat.le_of_ble_eq_true rfl) rfl ?_
      refine rj_iadd dX12_weekday_47 rfl ?_
      refine rj_istore (l' := [(4, .int (s33 + (fX12_daysOf μ a0 (nI j33)))), (0, .int a0), (1, .int a1), (2, .int a2), (3, .int (a0 - 1)), (5, .int (nI j33))]) dX12_weekday_48 rfl (rj_bl rfl) rfl ?_
      refine rj_iinc (v := nI (j33 + 1)) (l' := [(5, .int (nI (j33 + 1))), (4, .int (s33 + (fX12_daysOf μ a0 (nI j33)))), (0, .int a0), (1, .int a1), (2, .int a2), (3, .int (a0 - 1))]) 5 dX12_weekday_50 rfl rfl (nI_succ j33).symm (rj_bl rfl) rfl ?_
      refine rj_goto dX12_weekday_53 rfl ?_
      have e : bX12_weekday_33 μ a0 a1 a2 j33 s33 = (s33 + (fX12_daysOf μ a0 (nI j33))) := by unfold bX12_weekday_33; rfl
      exact rj_sub (l' := [(0, .int a0), (1, .int a1), (2, .int a2), (3, .int (a0 - 1)), (4, .int (s33 + (fX12_daysOf μ a0 (nI j33)))), (5, .int (nI (j33 + 1)))]) [2, 3, 4, 5, 1, 0] rfl (ih (j33 + 1) (s33 + (fX12_daysOf μ a0 (nI j33))) (by omega) (by omega) (by rw [rj_fo_s, e] at K; exact K))
def fX12_weekday (μ : rj_M) (a0 : Int32) (a1 : Int32) (a2 : Int32) : Int32 := (((rj_fo (bX12_weekday_33 μ a0 a1 a2) (a1.toInt.toNat - 1) 1 ((((((365 * (a0 - 1)) + ((a0 - 1) / 4)) - ((a0 - 1) / 100)) + ((a0 - 1) / 400)) + a2) - 1)) - (rj_fo (bX12_weekday_33 μ a0 a1 a2) (a1.toInt.toNat - 1) 1 ((((((365 * (a0 - 1)) + ((a0 - 1) / 4)) - ((a0 - 1) / 100)) + ((a0 - 1) / 400)) + a2) - 1)) / 7 * 7) + 1)
set_option maxHeartbeats 40000000 in
set_option maxRecDepth 100000 in
theorem sX12_weekday {g : rj_G} {ω : rj_W} (hω : rj_ok ω) (μ : rj_M) (a0 : Int32) (a1 : Int32) (a2 : Int32)   : rj_Sp g yX12_weekday wsX12_weekday (rj_rm 2 0) [.int a0, .int a1, .int a2] ω μ (rj_D (.inl (some (.int (fX12_weekday μ a0 a1 a2)))) ω μ) := by
  refine rj_of' (cc := cX12_weekday) (nL := 6) (ret := (some .int)) (own := RX12) (l0 := [(0, .int a0), (1, .int a1), (2, .int a2)]) rfl (by decide +kernel) rfl (Nat.le_of_ble_eq_true rfl) rfl ?_
  refine rj_iload_n 0 dX12_weekday_0 rfl rfl ?_
  refine rj_iconst (v := 1) dX12_weekday_1 rfl (by decide) ?_
  refine rj_isub dX12_weekday_2 rfl ?_
  refine rj_istore_n (l' := [(3, .int (a0 - 1)), (0, .int a0), (1, .int a1), (2, .int a2)]) dX12_weekday_3 rfl (rj_bl rfl) rfl ?_
  refine rj_sipush (v := 365) dX12_weekday_4 rfl (by decide) ?_
  refine rj_iload_n 0 dX12_weekday_7 rfl rfl ?_
  refine rj_imul dX12_weekday_8 rfl ?_
  refine rj_iload_n 0 dX12_weekday_9 rfl rfl ?_
  refine rj_iconst (v := 4) dX12_weekday_10 rfl (by decide) ?_
  refine rj_idiv dX12_weekday_11 rfl (by decide) ?_
  refine rj_iadd dX12_weekday_12 rfl ?_
  refine rj_iload_n 0 dX12_weekday_13 rfl rfl ?_
  refine rj_bipush (v := 100) dX12_weekday_14 rfl (by decide) ?_
  refine rj_idiv dX12_weekday_16 rfl (by decide) ?_
  refine rj_isub dX12_weekday_17 rfl ?_
  refine rj_iload_n 0 dX12_weekday_18 rfl rfl ?_
  refine rj_sipush (v := 400) dX12_weekday_19 rfl (by decide) ?_
  refine rj_idiv dX12_weekday_22 rfl (by decide) ?_
  refine rj_iadd dX12_weekday_23 rfl ?_
  refine rj_iload_n 3 dX12_weekday_24 rfl rfl ?_
  refine rj_iadd dX12_weekday_25 rfl ?_
  refine rj_iconst (v := 1) dX12_weekday_26 rfl (by decide) ?_
  refine rj_isub dX12_weekday_27 rfl ?_
  refine rj_istore (l' := [(4, .int ((((((365 * (a0 - 1)) + ((a0 - 1) / 4)) - ((a0 - 1) / 100)) + ((a0 - 1) / 400)) + a2) - 1)), (3, .int (a0 - 1)), (0, .int a0), (1, .int a1), (2, .int a2)]) dX12_weekday_28 rfl (rj_bl rfl) rfl ?_
  refine rj_iconst (v := 1) dX12_weekday_30 rfl (by decide) ?_
  refine rj_istore (l' := [(5, .int 1), (4, .int ((((((365 * (a0 - 1)) + ((a0 - 1) / 4)) - ((a0 - 1) / 100)) + ((a0 - 1) / 400)) + a2) - 1)), (3, .int (a0 - 1)), (0, .int a0), (1, .int a1), (2, .int a2)]) dX12_weekday_31 rfl (rj_bl rfl) rfl ?_
  refine rj_sub (l' := [(0, .int a0), (1, .int a1), (2, .int a2), (3, .int (a0 - 1)), (4, .int ((((((365 * (a0 - 1)) + ((a0 - 1) / 4)) - ((a0 - 1) / 100)) + ((a0 - 1) / 400)) + a2) - 1)), (5, .int (nI 1))]) [3, 4, 5, 2, 1, 0] rfl ?_
  refine lX12_weekday_33 hω μ a0 a1 a2      (a1.toInt.toNat - 1) 1 ((((((365 * (a0 - 1)) + ((a0 - 1) / 4)) - ((a0 - 1) / 100)) + ((a0 - 1) / 400)) + a2) - 1) rfl (rj_bl rfl) ?_
  refine rj_iload 4 dX12_weekday_56 rfl rfl ?_
  refine rj_bipush (v := 7) dX12_weekday_58 rfl (by decide) ?_
  refine rj_irem dX12_weekday_60 rfl (by decide) ?_
  refine rj_iconst (v := 1) dX12_weekday_61 rfl (by decide) ?_
  refine rj_iadd dX12_weekday_62 rfl ?_
  exact rj_iret dX12_weekday_63 rfl (Nat.le_of_ble_eq_true rfl) (Nat.le_of_ble_eq_true rfl) ⟨(by unfold fX12_weekday; rfl), rfl, rfl⟩
theorem hSX12_setDate : yX12_setDate.cls ≠ "java/lang/invoke/MethodHandle" ∧ yX12_setDate.cls ≠ "java/lang/invoke/VarHandle" ∧ (parseMethodDescriptor yX12_setDate.desc).map (fun d => d.parameters.length) = some 3 := by decide +kernel
theorem hVX12_setDate : yX12_setDate.cls = RX12 ∧ yX12_setDate.cls ≠ "java/lang/invoke/MethodHandle" ∧ yX12_setDate.cls ≠ "java/lang/invoke/VarHandle" ∧ (parseMethodDescriptor yX12_setDate.desc).map (fun d => d.parameters.length) = some 3 := by decide +kernel
theorem vX12_setDate_12 : ∀ w ∈ u_ws RX12 TX12 16, w ∈ wsX12_setDate := by decide +kernel
theorem kX12_setDate_9 : Cond.fieldLink RX12 9 (TX12 1).1 (TX12 1).2.1 (TX12 1).2.2.1 ∈ wsX12_setDate := by decide +kernel
def fX12_setDate (μ : rj_M) (a0 : Int32) (a1 : Int32) (a2 : Int32) : Int32 := (if (fX12_in μ a0 1 9990) = 0 then 0 else (if (fX12_in μ a1 1 12) = 0 then 0 else (if (fX12_in μ a2 1 (fX12_daysOf μ a0 a1)) = 0 then 0 else (fX12_weekday (rj_pi (rj_pi (rj_pi (mX12_keeps (mX12_lacksT μ)) 396 (0 : Int32).toNatClampNeg a0) 396 (1 : Int32).toNatClampNeg a1) 396 (2 : Int32).toNatClampNeg a2) a0 a1 a2))))
def mX12_setDate (μ : rj_M) (a0 : Int32) (a1 : Int32) (a2 : Int32) : rj_M := (if (fX12_in μ a0 1 9990) = 0 then (mX12_lacksF μ) else (if (fX12_in μ a1 1 12) = 0 then (mX12_lacksF μ) else (if (fX12_in μ a2 1 (fX12_daysOf μ a0 a1)) = 0 then (mX12_lacksF μ) else (rj_pi (rj_pi (rj_pi (mX12_keeps (mX12_lacksT μ)) 396 (0 : Int32).toNatClampNeg a0) 396 (1 : Int32).toNatClampNeg a1) 396 (2 : Int32).toNatClampNeg a2))))
def qX12_setDate (μ : rj_M) (a0 : Int32) (a1 : Int32) (a2 : Int32) : Prop := ((((fX12_in μ a0 1 9990) = 0) → True) ∧ ((¬ ((fX12_in μ a0 1 9990) = 0)) → ((((fX12_in μ a1 1 12) = 0) → True) ∧ ((¬ ((fX12_in μ a1 1 12) = 0)) → ((((fX12_in μ a2 1 (fX12_daysOf μ a0 a1)) = 0) → True) ∧ ((¬ ((fX12_in μ a2 1 (fX12_daysOf μ a0 a1)) = 0)) → (qX12_keeps (mX12_lacksT μ) ∧ True)))))))
set_option maxHeartbeats 40000000 in
set_option maxRecDepth 100000 in
theorem sX12_setDate {g : rj_G} {ω : rj_W} (hω : rj_ok ω) (μ : rj_M) (a0 : Int32) (a1 : Int32) (a2 : Int32)   (hq : qX12_setDate μ a0 a1 a2) : rj_Sp g yX12_setDate wsX12_setDate (rj_rm 3 0) [.ref (ω.2.2 395), .int a0, .int a1, .int a2] ω μ (rj_D (.inl (some (.int (fX12_setDate μ a0 a1 a2)))) ω (mX12_setDate μ a0 a1 a2)) := by
  have hqa := hq
  unfold qX12_setDate at hqa
  refine rj_of' (cc := cX12_setDate) (nL := 4) (ret := (some .int)) (own := RX12) (l0 := [(0, .ref (ω.2.2 395)), (1, .int a0), (2, .int a1), (3, .int a2)]) rfl (by decide +kernel) rfl (Nat.le_of_ble_eq_true rfl) rfl ?_
  refine rj_aload_n 0 dX12_setDate_0 rfl rfl ?_
  refine rj_iload_n 1 dX12_setDate_1 rfl rfl ?_
  refine rj_iconst (v := 1) dX12_setDate_2 rfl (by decide) ?_
  refine rj_sipush (v := 9990) dX12_setDate_3 rfl (by decide) ?_
  refine rj_cS (rest := [.ref (ω.2.2 395)]) (sX12_in (g := g) (ω := ω) hω μ a0 1 9990   ) gX12_setDate_X12_in rfl hSX12_in ⟨Nat.le_of_ble_eq_true rfl, Nat.le_of_ble_eq_true rfl⟩ dX12_setDate_6 rfl rfl rfl (Nat.le_of_ble_eq_true rfl) rfl (Nat.le_of_ble_eq_true rfl) rfl ?_
  refine rj_if_eq dX12_setDate_9 rfl rfl (fun h1 => ?_) (fun h1 => ?_)
  · skip
    refine rj_iconst (v := 0) dX12_setDate_39 rfl (by decide) ?_
    refine rj_cV (rest := []) (sX12_lacksF (g := g) (ω := ω) hω μ   ) gX12_setDate_X12_lacks (rj_lt hω (k := 395) rfl) (rj_sh hω ly_395) rfl rfl hVX12_lacks ⟨Nat.le_of_ble_eq_true rfl, Nat.le_of_ble_eq_true rfl⟩ dX12_setDate_40 rfl rfl rfl (Nat.le_of_ble_eq_true rfl) rfl (Nat.le_of_ble_eq_true rfl) rfl ?_
    refine rj_if_eq dX12_setDate_43 rfl rfl (fun h2 => ?_) (fun h2 => ?_)
    · exact absurd h2 (by decide)
    · refine rj_iconst (v := 0) dX12_setDate_46 rfl (by decide) ?_
      exact rj_iret dX12_setDate_47 rfl (Nat.le_of_ble_eq_true rfl) (Nat.le_of_ble_eq_true rfl) ⟨(by unfold fX12_setDate; rw [if_pos h1]; try rfl), rfl, (by unfold mX12_setDate; rw [if_pos h1]; try rfl)⟩
  · have hq2 := (And.right hqa) h1
    refine rj_iload_n 2 dX12_setDate_12 rfl rfl ?_
    refine rj_iconst (v := 1) dX12_setDate_13 rfl (by decide) ?_
    refine rj_bipush (v := 12) dX12_setDate_14 rfl (by decide) ?_
    refine rj_cS (rest := [.ref (ω.2.2 395)]) (sX12_in (g := g) (ω := ω) hω μ a1 1 12   ) gX12_setDate_X12_in rfl hSX12_in ⟨Nat.le_of_ble_eq_true rfl, Nat.le_of_ble_eq_true rfl⟩ dX12_setDate_16 rfl rfl rfl (Nat.le_of_ble_eq_true rfl) rfl (Nat.le_of_ble_eq_true rfl) rfl ?_
    refine rj_if_eq dX12_setDate_19 rfl rfl (fun h3 => ?_) (fun h3 => ?_)
    · skip
      refine rj_iconst (v := 0) dX12_setDate_39 rfl (by decide) ?_
      refine rj_cV (rest := []) (sX12_lacksF (g := g) (ω := ω) hω μ   ) gX12_setDate_X12_lacks (rj_lt hω (k := 395) rfl) (rj_sh hω ly_395) rfl rfl hVX12_lacks ⟨Nat.le_of_ble_eq_true rfl, Nat.le_of_ble_eq_true rfl⟩ dX12_setDate_40 rfl rfl rfl (Nat.le_of_ble_eq_true rfl) rfl (Nat.le_of_ble_eq_true rfl) rfl ?_
      refine rj_if_eq dX12_setDate_43 rfl rfl (fun h4 => ?_) (fun h4 => ?_)
      · exact absurd h4 (by decide)
      · refine rj_iconst (v := 0) dX12_setDate_46 rfl (by decide) ?_
        exact rj_iret dX12_setDate_47 rfl (Nat.le_of_ble_eq_true rfl) (Nat.le_of_ble_eq_true rfl) ⟨(by unfold fX12_setDate; rw [if_neg h1]; rw [if_pos h3]; try rfl), rfl, (by unfold mX12_setDate; rw [if_neg h1]; rw [if_pos h3]; try rfl)⟩
    · have hq4 := (And.right hq2) h3
      refine rj_iload_n 3 dX12_setDate_22 rfl rfl ?_
      refine rj_iconst (v := 1) dX12_setDate_23 rfl (by decide) ?_
      refine rj_iload_n 1 dX12_setDate_24 rfl rfl ?_
      refine rj_iload_n 2 dX12_setDate_25 rfl rfl ?_
      refine rj_cS (rest := [.int 1, .int a2, .ref (ω.2.2 395)]) (sX12_daysOf (g := g) (ω := ω) hω μ a0 a1   ) gX12_setDate_X12_daysOf rfl hSX12_daysOf ⟨Nat.le_of_ble_eq_true rfl, Nat.le_of_ble_eq_true rfl⟩ dX12_setDate_26 rfl rfl rfl (Nat.le_of_ble_eq_true rfl) rfl (Nat.le_of_ble_eq_true rfl) rfl ?_
      refine rj_cS (rest := [.ref (ω.2.2 395)]) (sX12_in (g := g) (ω := ω) hω μ a2 1 (fX12_daysOf μ a0 a1)   ) gX12_setDate_X12_in rfl hSX12_in ⟨Nat.le_of_ble_eq_true rfl, Nat.le_of_ble_eq_true rfl⟩ dX12_setDate_29 rfl rfl rfl (Nat.le_of_ble_eq_true rfl) rfl (Nat.le_of_ble_eq_true rfl) rfl ?_
      refine rj_if_eq dX12_setDate_32 rfl rfl (fun h5 => ?_) (fun h5 => ?_)
      · skip
        refine rj_iconst (v := 0) dX12_setDate_39 rfl (by decide) ?_
        refine rj_cV (rest := []) (sX12_lacksF (g := g) (ω := ω) hω μ   ) gX12_setDate_X12_lacks (rj_lt hω (k := 395) rfl) (rj_sh hω ly_395) rfl rfl hVX12_lacks ⟨Nat.le_of_ble_eq_true rfl, Nat.le_of_ble_eq_true rfl⟩ dX12_setDate_40 rfl rfl rfl (Nat.le_of_ble_eq_true rfl) rfl (Nat.le_of_ble_eq_true rfl) rfl ?_
        refine rj_if_eq dX12_setDate_43 rfl rfl (fun h6 => ?_) (fun h6 => ?_)
        · exact absurd h6 (by decide)
        · refine rj_iconst (v := 0) dX12_setDate_46 rfl (by decide) ?_
          exact rj_iret dX12_setDate_47 rfl (Nat.le_of_ble_eq_true rfl) (Nat.le_of_ble_eq_true rfl) ⟨(by unfold fX12_setDate; rw [if_neg h1]; rw [if_neg h3]; rw [if_pos h5]; try rfl), rfl, (by unfold mX12_setDate; rw [if_neg h1]; rw [if_neg h3]; rw [if_pos h5]; try rfl)⟩
      · have hq6 := (And.right hq4) h5
        refine rj_iconst (v := 1) dX12_setDate_35 rfl (by decide) ?_
        refine rj_goto dX12_setDate_36 rfl ?_
        refine rj_cV (rest := []) (sX12_lacksT (g := g) (ω := ω) hω μ   ) gX12_setDate_X12_lacks (rj_lt hω (k := 395) rfl) (rj_sh hω ly_395) rfl rfl hVX12_lacks ⟨Nat.le_of_ble_eq_true rfl, Nat.le_of_ble_eq_true rfl⟩ dX12_setDate_40 rfl rfl rfl (Nat.le_of_ble_eq_true rfl) rfl (Nat.le_of_ble_eq_true rfl) rfl ?_
        refine rj_if_eq dX12_setDate_43 rfl rfl (fun h7 => ?_) (fun h7 => ?_)
        · refine rj_aload_n 0 dX12_setDate_48 rfl rfl ?_
          refine rj_cV (rest := []) (sX12_keeps (g := g) (ω := ω) hω (mX12_lacksT μ)   (And.left hq6)) gX12_setDate_X12_keeps (rj_lt hω (k := 395) rfl) (rj_sh hω ly_395) rfl rfl hVX12_keeps ⟨Nat.le_of_ble_eq_true rfl, Nat.le_of_ble_eq_true rfl⟩ dX12_setDate_49 rfl rfl rfl (Nat.le_of_ble_eq_true rfl) rfl (Nat.le_of_ble_eq_true rfl) rfl ?_
          refine rj_aload_n 0 dX12_setDate_52 rfl rfl ?_
          refine rj_getR (C0 := RX12) (T := TX12) (N := 16) (j := 1) (r := 396) dX12_setDate_53 rfl vX12_setDate_12 rfl (rj_lt hω (k := 395) rfl) (rj_sh hω ly_395) (by decide) kX12_setDate_9 rfl ?_
          refine rj_iconst (v := 0) dX12_setDate_56 rfl (by decide) ?_
          refine rj_iload_n 1 dX12_setDate_57 rfl rfl ?_
          refine rj_iast dX12_setDate_58 rfl (rj_lt hω (k := 396) rfl) (rj_sh hω ly_396) (vp_in_nI (n := 0) (rj_bl rfl) (rj_bl rfl)) ?_
          refine rj_aload_n 0 dX12_setDate_59 rfl rfl ?_
          refine rj_getR (C0 := RX12) (T := TX12) (N := 16) (j := 1) (r := 396) dX12_setDate_60 rfl vX12_setDate_12 rfl (rj_lt hω (k := 395) rfl) (rj_sh hω ly_395) (by decide) kX12_setDate_9 rfl ?_
          refine rj_iconst (v := 1) dX12_setDate_63 rfl (by decide) ?_
          refine rj_iload_n 2 dX12_setDate_64 rfl rfl ?_
          refine rj_iast dX12_setDate_65 rfl (rj_lt hω (k := 396) rfl) (rj_sh hω ly_396) (vp_in_nI (n := 1) (rj_bl rfl) (rj_bl rfl)) ?_
          refine rj_aload_n 0 dX12_setDate_66 rfl rfl ?_
          refine rj_getR (C0 := RX12) (T := TX12) (N := 16) (j := 1) (r := 396) dX12_setDate_67 rfl vX12_setDate_12 rfl (rj_lt hω (k := 395) rfl) (rj_sh hω ly_395) (by decide) kX12_setDate_9 rfl ?_
          refine rj_iconst (v := 2) dX12_setDate_70 rfl (by decide) ?_
          refine rj_iload_n 3 dX12_setDate_71 rfl rfl ?_
          refine rj_iast dX12_setDate_72 rfl (rj_lt hω (k := 396) rfl) (rj_sh hω ly_396) (vp_in_nI (n := 2) (rj_bl rfl) (rj_bl rfl)) ?_
          refine rj_iload_n 1 dX12_setDate_73 rfl rfl ?_
          refine rj_iload_n 2 dX12_setDate_74 rfl rfl ?_
          refine rj_iload_n 3 dX12_setDate_75 rfl rfl ?_
          refine rj_cS (rest := []) (sX12_weekday (g := g) (ω := ω) hω (rj_pi (rj_pi (rj_pi (mX12_keeps (mX12_lacksT μ)) 396 (0 : Int32).toNatClampNeg a0) 396 (1 : Int32).toNatClampNeg a1) 396 (2 : Int32).toNatClampNeg a2) a0 a1 a2   ) gX12_setDate_X12_weekday rfl hSX12_weekday ⟨Nat.le_of_ble_eq_true rfl, Nat.le_of_ble_eq_true rfl⟩ dX12_setDate_76 rfl rfl rfl (Nat.le_of_ble_eq_true rfl) rfl (Nat.le_of_ble_eq_true rfl) rfl ?_
          exact rj_iret dX12_setDate_79 rfl (Nat.le_of_ble_eq_true rfl) (Nat.le_of_ble_eq_true rfl) ⟨(by unfold fX12_setDate; rw [if_neg h1]; rw [if_neg h3]; rw [if_neg h5]; try rfl), rfl, (by unfold mX12_setDate; rw [if_neg h1]; rw [if_neg h3]; rw [if_neg h5]; try rfl)⟩
        · exact absurd (by decide) h7
