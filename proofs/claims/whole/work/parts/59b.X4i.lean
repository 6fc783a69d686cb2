theorem vX4_init_4 : ∀ w ∈ u_ws RX4 TX4 4, w ∈ wsX4_init := by decide +kernel
theorem kX4_init_15 : Cond.fieldLink RX4 15 (TX4 1).1 (TX4 1).2.1 (TX4 1).2.2.1 ∈ wsX4_init := by decide +kernel
theorem kX4_init_19 : Cond.fieldLink RX4 19 (TX4 2).1 (TX4 2).2.1 (TX4 2).2.2.1 ∈ wsX4_init := by decide +kernel
theorem kX4_init_22 : Cond.fieldLink RX4 22 (TX4 3).1 (TX4 3).2.1 (TX4 3).2.2.1 ∈ wsX4_init := by decide +kernel
theorem jX4_init_25_i : Cond.initialized yX11_fillRow.cls ∈ wsX4_init := by decide +kernel
theorem jX4_init_25_s : Cond.static yX11_fillRow ∈ wsX4_init := by decide +kernel
theorem jX4_init_25_n : (RX4, 25, yX11_fillRow, "Festivalgrounds") ∈ rj_nw := by decide +kernel
def bX4_init_37 (μ : rj_M) (b : Nat) (j37 : Nat) (s37 : rj_M) : rj_M := (if ((nI j37) / 4) = ((nI j37) - (nI j37) / 4 * 4) then (rj_pi (rj_pi s37 (b + 4) (nI j37).toNatClampNeg 0) (b + 5) (nI j37).toNatClampNeg ((rj_pi s37 (b + 4) (nI j37).toNatClampNeg 0).1 (b + 4) (nI j37).toNatClampNeg)) else (rj_pi (rj_pi s37 (b + 4) (nI j37).toNatClampNeg 10) (b + 5) (nI j37).toNatClampNeg ((rj_pi s37 (b + 4) (nI j37).toNatClampNeg 10).1 (b + 4) (nI j37).toNatClampNeg)))
set_option maxHeartbeats 4000000 in
set_option maxRecDepth 100000 in
theorem lX4_init_37 {g : rj_G} {ω : rj_W} (μ : rj_M) (b : Nat)    (hB : rj_bs ω b 2 7) {F : rj_F} : ∀ (r j : Nat) (s : rj_M), j + r = 16 → (rj_R g RX4 cX4_init 2 none wsX4_init [] (rj_rm 4 18) F 18 ω (rj_fo (bX4_init_37 μ b) r j s) [(0, .ref (ω.2.2 (b + 2))), (1, .int (nI 16))] 94 []) → rj_R g RX4 cX4_init 2 none wsX4_init [] (rj_rm 4 18) F 18 ω s [(0, .ref (ω.2.2 (b + 2))), (1, .int (nI j))] 37 [] := by
  intro r
  induction r with
  | zero =>
    intro j s hj K
    have e0 : j = 16 := by omega
    have hge : 16 ≤ nI j := by
      rw [e0]
      exact Int32.le_refl _
    refine rj_iload_n 1 dX4_init_37 rfl rfl ?_
    refine rj_aload_n 0 dX4_init_38 rfl rfl ?_
    refine rj_getR (C0 := RX4) (T := TX4) (N := 4) (j := 1) (r := (b + 4)) dX4_init_39 rfl vX4_init_4 rfl (hB.lt (o := 2) rfl rfl) (hB.sh (o := 2) rfl (lm_2 _) rfl) (by decide) kX4_init_15 rfl ?_
    refine rj_alen (v := 16) dX4_init_42 rfl (hB.lt (o := 4) rfl rfl) (hB.sh (o := 4) rfl (lm_4 _) rfl) rfl rfl ?_
    refine rj_icmp_ge dX4_init_43 rfl rfl (fun h4 => ?_) (fun h4 => ?_)
    · have e1 : nI j = nI 16 := by rw [e0]
      rw [e1]
      exact K
    · exact absurd hge h4
  | succ r ih =>
    intro j37 s37 hj K
    have hl37 : j37 < 16 := by omega
    have hg37 : ¬ 16 ≤ nI j37 := nI_ge hl37 (rj_bl rfl)
    refine rj_iload_n 1 dX4_init_37 rfl rfl ?_
    refine rj_aload_n 0 dX4_init_38 rfl rfl ?_
    refine rj_getR (C0 := RX4) (T := TX4) (N := 4) (j := 1) (r := (b + 4)) dX4_init_39 rfl vX4_init_4 rfl (hB.lt (o := 2) rfl rfl) (hB.sh (o := 2) rfl (lm_2 _) rfl) (by decide) kX4_init_15 rfl ?_
    refine rj_alen (v := 16) dX4_init_42 rfl (hB.lt (o := 4) rfl rfl) (hB.sh (o := 4) rfl (lm_4 _) rfl) rfl rfl ?_
    refine rj_icmp_ge dX4_init_43 rfl rfl (fun h1 => ?_) (fun h1 => ?_)
    · exact absurd h1 hg37
    · refine rj_iload_n 1 dX4_init_46 rfl rfl ?_
      refine rj_aload_n 0 dX4_init_47 rfl rfl ?_
      refine rj_getR (C0 := RX4) (T := TX4) (N := 4) (j := 2) (r := (b + 5)) dX4_init_48 rfl vX4_init_4 rfl (hB.lt (o := 2) rfl rfl) (hB.sh (o := 2) rfl (lm_2 _) rfl) (by decide) kX4_init_19 rfl ?_
      refine rj_alen (v := 16) dX4_init_51 rfl (hB.lt (o := 5) rfl rfl) (hB.sh (o := 5) rfl (lm_5 _) rfl) rfl rfl ?_
      refine rj_icmp_ge dX4_init_52 rfl rfl (fun h2 => ?_) (fun h2 => ?_)
      · exact absurd h2 hg37
      · refine rj_aload_n 0 dX4_init_55 rfl rfl ?_
        refine rj_getR (C0 := RX4) (T := TX4) (N := 4) (j := 1) (r := (b + 4)) dX4_init_56 rfl vX4_init_4 rfl (hB.lt (o := 2) rfl rfl) (hB.sh (o := 2) rfl (lm_2 _) rfl) (by decide) kX4_init_15 rfl ?_
        refine rj_iload_n 1 dX4_init_59 rfl rfl ?_
        refine rj_iload_n 1 dX4_init_60 rfl rfl ?_
        refine rj_iconst (v := 4) dX4_init_61 rfl (by decide) ?_
        refine rj_idiv dX4_init_62 rfl (by decide) ?_
        refine rj_iload_n 1 dX4_init_63 rfl rfl ?_
        refine rj_iconst (v := 4) dX4_init_64 rfl (by decide) ?_
        refine rj_irem dX4_init_65 rfl (by decide) ?_
        refine rj_icmp_ne dX4_init_66 rfl rfl (fun h3 => ?_) (fun h3 => ?_)
        · refine rj_bipush (v := 10) dX4_init_73 rfl (by decide) ?_
          refine rj_iast dX4_init_75 rfl (hB.lt (o := 4) rfl rfl) (hB.sh (o := 4) rfl (lm_4 _) rfl) (vp_in_nI hl37 (rj_bl rfl)) ?_
          refine rj_aload_n 0 dX4_init_76 rfl rfl ?_
          refine rj_getR (C0 := RX4) (T := TX4) (N := 4) (j := 2) (r := (b + 5)) dX4_init_77 rfl vX4_init_4 rfl (hB.lt (o := 2) rfl rfl) (hB.sh (o := 2) rfl (lm_2 _) rfl) (by decide) kX4_init_19 rfl ?_
          refine rj_iload_n 1 dX4_init_80 rfl rfl ?_
          refine rj_aload_n 0 dX4_init_81 rfl rfl ?_
          refine rj_getR (C0 := RX4) (T := TX4) (N := 4) (j := 1) (r := (b + 4)) dX4_init_82 rfl vX4_init_4 rfl (hB.lt (o := 2) rfl rfl) (hB.sh (o := 2) rfl (lm_2 _) rfl) (by decide) kX4_init_15 rfl ?_
          refine rj_iload_n 1 dX4_init_85 rfl rfl ?_
          refine rj_iald dX4_init_86 rfl (hB.lt (o := 4) rfl rfl) (hB.sh (o := 4) rfl (lm_4 _) rfl) (vp_in_nI hl37 (rj_bl rfl)) ?_
          refine rj_iast dX4_init_87 rfl (hB.lt (o := 5) rfl rfl) (hB.sh (o := 5) rfl (lm_5 _) rfl) (vp_in_nI hl37 (rj_bl rfl)) ?_
          refine rj_iinc (v := nI (j37 + 1)) (l' := [(1, .int (nI (j37 + 1))), (0, .ref (ω.2.2 (b + 2)))]) 1 dX4_init_88 rfl rfl (nI_succ j37).symm (rj_bl rfl) rfl ?_
          refine rj_goto dX4_init_91 rfl ?_
          have e : bX4_init_37 μ b j37 s37 = (rj_pi (rj_pi s37 (b + 4) (nI j37).toNatClampNeg 10) (b + 5) (nI j37).toNatClampNeg ((rj_pi s37 (b + 4) (nI j37).toNatClampNeg 10).1 (b + 4) (nI j37).toNatClampNeg)) := by unfold bX4_init_37; rw [if_neg h3]; try rfl
          exact rj_sub (l' := [(0, .ref (ω.2.2 (b + 2))), (1, .int (nI (j37 + 1)))]) [1, 0] rfl (ih (j37 + 1) (rj_pi (rj_pi s37 (b + 4) (nI j37).toNatClampNeg 10) (b + 5) (nI j37).toNatClampNeg ((rj_pi s37 (b + 4) (nI j37).toNatClampNeg 10).1 (b + 4) (nI j37).toNatClampNeg)) (by omega) (by rw [rj_fo_s, e] at K; exact K))
        · refine rj_iconst (v := 0) dX4_init_69 rfl (by decide) ?_
          refine rj_goto dX4_init_70 rfl ?_
          refine rj_iast dX4_init_75 rfl (hB.lt (o := 4) rfl rfl) (hB.sh (o := 4) rfl (lm_4 _) rfl) (vp_in_nI hl37 (rj_bl rfl)) ?_
          refine rj_aload_n 0 dX4_init_76 rfl rfl ?_
          refine rj_getR (C0 := RX4) (T := TX4) (N := 4) (j := 2) (r := (b + 5)) dX4_init_77 rfl vX4_init_4 rfl (hB.lt (o := 2) rfl rfl) (hB.sh (o := 2) rfl (lm_2 _) rfl) (by decide) kX4_init_19 rfl ?_
          refine rj_iload_n 1 dX4_init_80 rfl rfl ?_
          refine rj_aload_n 0 dX4_init_81 rfl rfl ?_
          refine rj_getR (C0 := RX4) (T := TX4) (N := 4) (j := 1) (r := (b + 4)) dX4_init_82 rfl vX4_init_4 rfl (hB.lt (o := 2) rfl rfl) (hB.sh (o := 2) rfl (lm_2 _) rfl) (by decide) kX4_init_15 rfl ?_
          refine rj_iload_n 1 dX4_init_85 rfl rfl ?_
          refine rj_iald dX4_init_86 rfl (hB.lt (o := 4) rfl rfl) (hB.sh (o := 4) rfl (lm_4 _) rfl) (vp_in_nI hl37 (rj_bl rfl)) ?_
          refine rj_iast dX4_init_87 rfl (hB.lt (o := 5) rfl rfl) (hB.sh (o := 5) rfl (lm_5 _) rfl) (vp_in_nI hl37 (rj_bl rfl)) ?_
          refine rj_iinc (v := nI (j37 + 1)) (l' := [(1, .int (nI (j37 + 1))), (0, .ref (ω.2.2 (b + 2)))]) 1 dX4_init_88 rfl rfl (nI_succ j37).symm (rj_bl rfl) rfl ?_
          refine rj_goto dX4_init_91 rfl ?_
          have e : bX4_init_37 μ b j37 s37 = (rj_pi (rj_pi s37 (b + 4) (nI j37).toNatClampNeg 0) (b + 5) (nI j37).toNatClampNeg ((rj_pi s37 (b + 4) (nI j37).toNatClampNeg 0).1 (b + 4) (nI j37).toNatClampNeg)) := by unfold bX4_init_37; rw [if_pos h3]; try rfl
          exact rj_sub (l' := [(0, .ref (ω.2.2 (b + 2))), (1, .int (nI (j37 + 1)))]) [1, 0] rfl (ih (j37 + 1) (rj_pi (rj_pi s37 (b + 4) (nI j37).toNatClampNeg 0) (b + 5) (nI j37).toNatClampNeg ((rj_pi s37 (b + 4) (nI j37).toNatClampNeg 0).1 (b + 4) (nI j37).toNatClampNeg)) (by omega) (by rw [rj_fo_s, e] at K; exact K))
def mtX4_init (μ : rj_M) (b : Nat) : rj_M := (mX11_fillRow (rj_fo (bX4_init_37 μ b) 16 0 μ) (b + 6) 100 (-1))
set_option maxHeartbeats 40000000 in
set_option maxRecDepth 100000 in
theorem tX4_init {g : rj_G} {ω : rj_W} (μ : rj_M) (b : Nat)  (hB : rj_bs ω b 2 7)  {P : rj_P} (hP : P (.inl none) ω (mtX4_init μ b)) : rj_R g RX4 cX4_init 2 none wsX4_init [] (rj_rm 4 18) (rj_E g (rj_rm 4 18) P) 18 ω μ [(0, .ref (ω.2.2 (b + 2)))] 36 [.int 0] := by
  refine rj_istore_n (l' := [(1, .int 0), (0, .ref (ω.2.2 (b + 2)))]) dX4_init_36 rfl (rj_bl rfl) rfl ?_
  refine rj_sub (l' := [(0, .ref (ω.2.2 (b + 2))), (1, .int (nI 0))]) [1, 0] rfl ?_
  refine lX4_init_37 μ b    hB 16 0 μ rfl ?_
  refine rj_aload_n 0 dX4_init_94 rfl rfl ?_
  refine rj_getR (C0 := RX4) (T := TX4) (N := 4) (j := 3) (r := (b + 6)) dX4_init_95 rfl vX4_init_4 rfl (hB.lt (o := 2) rfl rfl) (hB.sh (o := 2) rfl (lm_2 _) rfl) (by decide) kX4_init_22 rfl ?_
  refine rj_iconst (v := (-1)) dX4_init_98 rfl (by decide) ?_
  refine rj_cSN (rest := []) (sX11_fillRow (g := g) (ω := ω) (rj_fo (bX4_init_37 μ b) 16 0 μ) (b + 6) 100 (-1) (hB.lt (o := 6) rfl rfl) (hB.sh (o := 6) rfl (lm_6 _) rfl) (rj_bl rfl)  ) ggX4_init_X11_fillRow jX4_init_25_i jX4_init_25_s jX4_init_25_n rfl hSX11_fillRow ⟨Nat.le_of_ble_eq_true rfl, Nat.le_of_ble_eq_true rfl⟩ dX4_init_99 rfl rfl rfl (Nat.le_of_ble_eq_true rfl) rfl (Nat.le_of_ble_eq_true rfl) rfl ?_
  exact rj_vret dX4_init_102 rfl (Nat.le_of_ble_eq_true rfl) (Nat.le_of_ble_eq_true rfl) (by have e3 : mtX4_init μ b = (mX11_fillRow (rj_fo (bX4_init_37 μ b) 16 0 μ) (b + 6) 100 (-1)) := (by unfold mtX4_init; rfl); rw [e3] at hP; exact hP)
theorem rf_X4_init (μ : rj_M) (b : Nat) : (mtX4_init μ b).2.2.2 = μ.2.2.2 := by
  unfold mtX4_init
  rw [rf_fillRow]
  exact rf_fo (fun s : rj_M => s.2.2.2) (fun j s => by unfold bX4_init_37; split <;> rfl) _ _ _
theorem wX4_init_3_0 : Cond.methodLink RX4 3 Lib.objectInit ∈ wsX4_init := by decide +kernel
theorem wX4_init_3_1 : Cond.instanceMethod Lib.objectInit ∈ wsX4_init := by decide +kernel
theorem wX4_init_3_2 : Cond.code Lib.objectInit ⟨#[0xb1]⟩ 1 none ∈ wsX4_init := by decide +kernel
theorem wX4_init_arr1_0 : Cond.arrayClass .boolean ∈ wsX4_init := by decide +kernel
theorem kX4_init_9 : Cond.fieldLink RX4 9 (TX4 0).1 (TX4 0).2.1 (TX4 0).2.2.1 ∈ wsX4_init := by decide +kernel
theorem wX4_init_arr0_0 : Cond.arrayClass .int ∈ wsX4_init := by decide +kernel
def mX4_init (μ : rj_M) (b : Nat) : rj_M := (mtX4_init (rj_z (rj_z (rj_z (rj_z μ (b + 3)) (b + 4)) (b + 5)) (b + 6)) b)
set_option maxHeartbeats 40000000 in
set_option maxRecDepth 100000 in
theorem sX4_init {g : rj_G} {ω : rj_W} (μ : rj_M) (b : Nat) (sf : Nat → rj_Sh) (hn : ω.1 = b + 2 + 1) (hs : ω.2.1 = va_up sf (b + 2) (.inr (4, [some (some 0), some (some 0), some (some 0), some (some 0)]))) (hc : rj_cl ω μ) (hb : ∀ x, 2 ≤ x → x < 7 → sf (b + x) = rj_lm b x) : rj_Sp g yX4_init wsX4_init (rj_rm 4 18) [.ref (ω.2.2 (b + 2))] ω μ (rj_DI ω (b + 7) sf (mX4_init μ b)) := by
  refine ri_of (cc := cX4_init) (nL := 2) (ret := none) (own := RX4) (l0 := [(0, .ref (ω.2.2 (b + 2)))]) rfl (by decide +kernel) rfl rfl (Nat.le_of_ble_eq_true rfl) rfl ?_
  replace hn : ω.1 = b + 3 := by omega
  refine ri_aload_n 0 dX4_init_0 rfl rfl ?_
  refine ri_obj dX4_init_1 rfl wX4_init_3_0 wX4_init_3_1 wX4_init_3_2 (Nat.le_of_ble_eq_true rfl) (Nat.le_of_ble_eq_true rfl) (Nat.le_of_ble_eq_true rfl) ?_
  refine ri_aload_n 0 dX4_init_4 rfl rfl ?_
  refine ri_iconst (v := 4) dX4_init_5 rfl (by decide) ?_
  refine ri_newA (L := fun ad => [(0, .ref (ad (b + 2)))]) (ST := fun ad => [.ref (ad (b + 2))]) (kd := 1) (N := 4) (K := 1) dX4_init_6 rfl wX4_init_arr1_0 rfl (by decide) rfl (fun ad cA => by simp only [rj_av, rj_z, va_up_self]; rfl) (Nat.le_of_ble_eq_true rfl) (Nat.le_of_ble_eq_true rfl) (Nat.le_of_ble_eq_true rfl) (Nat.le_of_ble_eq_true rfl) (Nat.le_of_ble_eq_true rfl) hc (by rw [hn, hs, va_up_ne _ _ (by omega)]; exact (hb _ (by omega) (by omega)).trans (lm_3 b)) (fun ad h => by show _ = _; simp only [h (b + 2) (by omega)]) (fun ad h => by show _ = _; simp only [h (b + 2) (by omega)]) (fun ω1 hn1 hs1 ha1 hc1 => ?_)
  rw [hn] at hn1 hc1 ⊢
  replace hn1 : ω1.1 = b + 4 := by omega
  rw [hs] at hs1
  refine ri_putF (L := fun ad => [(0, .ref (ad (b + 2)))]) (ST := fun ad => []) (C0 := RX4) (T := TX4) (N := 4) (j := 0) (k := (b + 2)) (r := (b + 3)) (fs1 := [some (some ((b + 3) + 1)), some (some 0), some (some 0), some (some 0)]) dX4_init_8 rfl vX4_init_4 rfl (by omega) (by omega) hs1 (by decide) kX4_init_9 tyX4 tyX4_ok nmX4 rfl (fun _ h => h) rfl (Nat.le_of_ble_eq_true rfl) ⟨_, rfl⟩ (fun _ => rfl) (fun _ => rfl) hc1 rfl (fun ω2 hn2 hs2 ha2 hc2 => ?_)
  rw [hn1] at hn2
  refine ri_aload_n 0 dX4_init_11 rfl rfl ?_
  refine ri_bipush (v := 16) dX4_init_12 rfl (by decide) ?_
  refine ri_newA (L := fun ad => [(0, .ref (ad (b + 2)))]) (ST := fun ad => [.ref (ad (b + 2))]) (kd := 0) (N := 16) (K := 2) dX4_init_14 rfl wX4_init_arr0_0 rfl (by decide) rfl (fun ad cA => by simp only [rj_av, rj_z, va_up_self]; rfl) (Nat.le_of_ble_eq_true rfl) (Nat.le_of_ble_eq_true rfl) (Nat.le_of_ble_eq_true rfl) (Nat.le_of_ble_eq_true rfl) (Nat.le_of_ble_eq_true rfl) hc2 (by rw [hn2, hs2, va_up_ne _ _ (by omega)]; exact (hb _ (by omega) (by omega)).trans (lm_4 b)) (fun ad h => by show _ = _; simp only [h (b + 2) (by omega)]) (fun ad h => by show _ = _; simp only [h (b + 2) (by omega)]) (fun ω3 hn3 hs3 ha3 hc3 => ?_)
  rw [hn2] at hn3 hc3 ⊢
  replace hn3 : ω3.1 = b + 5 := by omega
  rw [hs2] at hs3
  refine ri_putF (L := fun ad => [(0, .ref (ad (b + 2)))]) (ST := fun ad => []) (C0 := RX4) (T := TX4) (N := 4) (j := 1) (k := (b + 2)) (r := (b + 4)) (fs1 := [some (some ((b + 3) + 1)), some (some ((b + 4) + 1)), some (some 0), some (some 0)]) dX4_init_16 rfl vX4_init_4 rfl (by omega) (by omega) hs3 (by decide) kX4_init_15 tyX4 tyX4_ok nmX4 rfl (fun _ h => h) rfl (Nat.le_of_ble_eq_true rfl) ⟨_, rfl⟩ (fun _ => rfl) (fun _ => rfl) hc3 rfl (fun ω4 hn4 hs4 ha4 hc4 => ?_)
  rw [hn3] at hn4
  refine ri_aload_n 0 dX4_init_19 rfl rfl ?_
  refine ri_bipush (v := 16) dX4_init_20 rfl (by decide) ?_
  refine ri_newA (L := fun ad => [(0, .ref (ad (b + 2)))]) (ST := fun ad => [.ref (ad (b + 2))]) (kd := 0) (N := 16) (K := 2) dX4_init_22 rfl wX4_init_arr0_0 rfl (by decide) rfl (fun ad cA => by simp only [rj_av, rj_z, va_up_self]; rfl) (Nat.le_of_ble_eq_true rfl) (Nat.le_of_ble_eq_true rfl) (Nat.le_of_ble_eq_true rfl) (Nat.le_of_ble_eq_true rfl) (Nat.le_of_ble_eq_true rfl) hc4 (by rw [hn4, hs4, va_up_ne _ _ (by omega)]; exact (hb _ (by omega) (by omega)).trans (lm_5 b)) (fun ad h => by show _ = _; simp only [h (b + 2) (by omega)]) (fun ad h => by show _ = _; simp only [h (b + 2) (by omega)]) (fun ω5 hn5 hs5 ha5 hc5 => ?_)
  rw [hn4] at hn5 hc5 ⊢
  replace hn5 : ω5.1 = b + 6 := by omega
  rw [hs4] at hs5
  refine ri_putF (L := fun ad => [(0, .ref (ad (b + 2)))]) (ST := fun ad => []) (C0 := RX4) (T := TX4) (N := 4) (j := 2) (k := (b + 2)) (r := (b + 5)) (fs1 := [some (some ((b + 3) + 1)), some (some ((b + 4) + 1)), some (some ((b + 5) + 1)), some (some 0)]) dX4_init_24 rfl vX4_init_4 rfl (by omega) (by omega) hs5 (by decide) kX4_init_19 tyX4 tyX4_ok nmX4 rfl (fun _ h => h) rfl (Nat.le_of_ble_eq_true rfl) ⟨_, rfl⟩ (fun _ => rfl) (fun _ => rfl) hc5 rfl (fun ω6 hn6 hs6 ha6 hc6 => ?_)
  rw [hn5] at hn6
  refine ri_aload_n 0 dX4_init_27 rfl rfl ?_
  refine ri_bipush (v := 100) dX4_init_28 rfl (by decide) ?_
  refine ri_newA (L := fun ad => [(0, .ref (ad (b + 2)))]) (ST := fun ad => [.ref (ad (b + 2))]) (kd := 0) (N := 100) (K := 13) dX4_init_30 rfl wX4_init_arr0_0 rfl (by decide) rfl (fun ad cA => by simp only [rj_av, rj_z, va_up_self]; rfl) (Nat.le_of_ble_eq_true rfl) (Nat.le_of_ble_eq_true rfl) (Nat.le_of_ble_eq_true rfl) (Nat.le_of_ble_eq_true rfl) (Nat.le_of_ble_eq_true rfl) hc6 (by rw [hn6, hs6, va_up_ne _ _ (by omega)]; exact (hb _ (by omega) (by omega)).trans (lm_6 b)) (fun ad h => by show _ = _; simp only [h (b + 2) (by omega)]) (fun ad h => by show _ = _; simp only [h (b + 2) (by omega)]) (fun ω7 hn7 hs7 ha7 hc7 => ?_)
  rw [hn6] at hn7 hc7 ⊢
  replace hn7 : ω7.1 = b + 7 := by omega
  rw [hs6] at hs7
  refine ri_putF (L := fun ad => [(0, .ref (ad (b + 2)))]) (ST := fun ad => []) (C0 := RX4) (T := TX4) (N := 4) (j := 3) (k := (b + 2)) (r := (b + 6)) (fs1 := [some (some ((b + 3) + 1)), some (some ((b + 4) + 1)), some (some ((b + 5) + 1)), some (some ((b + 6) + 1))]) dX4_init_32 rfl vX4_init_4 rfl (by omega) (by omega) hs7 (by decide) kX4_init_22 tyX4 tyX4_ok nmX4 rfl (fun _ h => h) rfl (Nat.le_of_ble_eq_true rfl) ⟨_, rfl⟩ (fun _ => rfl) (fun _ => rfl) hc7 rfl (fun ω8 hn8 hs8 ha8 hc8 => ?_)
  rw [hn7] at hn8
  refine ri_iconst (v := 0) dX4_init_35 rfl (by decide) ?_
  have hsF : ω8.2.1 = sf := hs8.trans (va_up_id ((hb 2 (by omega) (by omega)).trans (lm_2 b)))
  have hB : rj_bs ω8 b 2 7 := fun o h1 h2 => ⟨by omega, by rw [hsF]; exact hb o h1 h2⟩
  exact rj_RI.of (tX4_init (ω := ω8) ((rj_z (rj_z (rj_z (rj_z μ (b + 3)) (b + 4)) (b + 5)) (b + 6))) b hB ⟨rfl, (fun j hj => (((fun j _ => congrFun ha8 j) j (by omega)).trans ((ha7 j (by omega)).trans (((fun j _ => congrFun ha6 j) j (by omega)).trans ((ha5 j (by omega)).trans (((fun j _ => congrFun ha4 j) j (by omega)).trans ((ha3 j (by omega)).trans (((fun j _ => congrFun ha2 j) j (by omega)).trans (ha1 j (by omega)))))))))), hn8, hsF, rfl, hc8.same (rf_X4_init ((rj_z (rj_z (rj_z (rj_z μ (b + 3)) (b + 4)) (b + 5)) (b + 6))) b)⟩)
