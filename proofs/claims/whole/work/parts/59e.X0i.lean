theorem vX0_init_0 : ∀ w ∈ u_ws RX0 TX0 7, w ∈ wsX0_init := by decide +kernel
theorem kX0_init_19 : Cond.fieldLink RX0 19 (TX0 2).1 (TX0 2).2.1 (TX0 2).2.2.1 ∈ wsX0_init := by decide +kernel
theorem jX0_init_34_i : Cond.initialized yX11_fillRow.cls ∈ wsX0_init := by decide +kernel
theorem jX0_init_34_s : Cond.static yX11_fillRow ∈ wsX0_init := by decide +kernel
theorem jX0_init_34_n : (RX0, 34, yX11_fillRow, "Festivalgrounds") ∈ rj_nw := by decide +kernel
def mtX0_init (μ : rj_M) (b : Nat) : rj_M := (mX11_fillRow μ (b + 22) 12 (-1))
set_option maxHeartbeats 40000000 in
set_option maxRecDepth 100000 in
theorem tX0_init {g : rj_G} {ω : rj_W} (μ : rj_M) (b : Nat)  (hB : rj_bs ω b 20 25)  {P : rj_P} (hP : P (.inl none) ω (mtX0_init μ b)) : rj_R g RX0 cX0_init 1 none wsX0_init [] (rj_rm 4 6) (rj_E g (rj_rm 4 6) P) 6 ω μ [(0, .ref (ω.2.2 (b + 20)))] 50 [.ref (ω.2.2 (b + 20))] := by
  refine rj_getR (C0 := RX0) (T := TX0) (N := 7) (j := 2) (r := (b + 22)) dX0_init_50 rfl vX0_init_0 rfl (hB.lt (o := 20) rfl rfl) (hB.sh (o := 20) rfl (lm_20 _) rfl) (by decide) kX0_init_19 rfl ?_
  refine rj_iconst (v := (-1)) dX0_init_53 rfl (by decide) ?_
  refine rj_cSN (rest := []) (sX11_fillRow (g := g) (ω := ω) μ (b + 22) 12 (-1) (hB.lt (o := 22) rfl rfl) (hB.sh (o := 22) rfl (lm_22 _) rfl) (rj_bl rfl)  ) ggX0_init_X11_fillRow jX0_init_34_i jX0_init_34_s jX0_init_34_n rfl hSX11_fillRow ⟨Nat.le_of_ble_eq_true rfl, Nat.le_of_ble_eq_true rfl⟩ dX0_init_54 rfl rfl rfl (Nat.le_of_ble_eq_true rfl) rfl (Nat.le_of_ble_eq_true rfl) rfl ?_
  exact rj_vret dX0_init_57 rfl (Nat.le_of_ble_eq_true rfl) (Nat.le_of_ble_eq_true rfl) (by have e3 : mtX0_init μ b = (mX11_fillRow μ (b + 22) 12 (-1)) := (by unfold mtX0_init; rfl); rw [e3] at hP; exact hP)
theorem rf_X0_init (μ : rj_M) (b : Nat) : (mtX0_init μ b).2.2.2 = μ.2.2.2 := by
  unfold mtX0_init
  rw [rf_fillRow]
theorem wX0_init_3_0 : Cond.methodLink RX0 3 Lib.objectInit ∈ wsX0_init := by decide +kernel
theorem wX0_init_3_1 : Cond.instanceMethod Lib.objectInit ∈ wsX0_init := by decide +kernel
theorem wX0_init_3_2 : Cond.code Lib.objectInit ⟨#[0xb1]⟩ 1 none ∈ wsX0_init := by decide +kernel
theorem wX0_init_arr0_0 : Cond.arrayClass .int ∈ wsX0_init := by decide +kernel
theorem kX0_init_9 : Cond.fieldLink RX0 9 (TX0 0).1 (TX0 0).2.1 (TX0 0).2.2.1 ∈ wsX0_init := by decide +kernel
theorem kX0_init_15 : Cond.fieldLink RX0 15 (TX0 1).1 (TX0 1).2.1 (TX0 1).2.2.1 ∈ wsX0_init := by decide +kernel
theorem kX0_init_22 : Cond.fieldLink RX0 22 (TX0 3).1 (TX0 3).2.1 (TX0 3).2.2.1 ∈ wsX0_init := by decide +kernel
theorem kX0_init_25 : Cond.fieldLink RX0 25 (TX0 4).1 (TX0 4).2.1 (TX0 4).2.2.1 ∈ wsX0_init := by decide +kernel
theorem kX0_init_28 : Cond.fieldLink RX0 28 (TX0 5).1 (TX0 5).2.1 (TX0 5).2.2.1 ∈ wsX0_init := by decide +kernel
theorem kX0_init_31 : Cond.fieldLink RX0 31 (TX0 6).1 (TX0 6).2.1 (TX0 6).2.2.1 ∈ wsX0_init := by decide +kernel
def mX0_init (μ : rj_M) (b : Nat) : rj_M := (mtX0_init (rj_pi (rj_pi (rj_z (rj_z (rj_z (rj_pi (rj_z μ (b + 21)) (b + 20) 1 0) (b + 22)) (b + 23)) (b + 24)) (b + 20) 5 3) (b + 20) 6 0) b)
set_option maxHeartbeats 40000000 in
set_option maxRecDepth 100000 in
theorem sX0_init {g : rj_G} {ω : rj_W} (μ : rj_M) (b : Nat) (sf : Nat → rj_Sh) (hn : ω.1 = b + 20 + 1) (hs : ω.2.1 = va_up sf (b + 20) (.inr (0, [some (some 0), none, some (some 0), some (some 0), some (some 0), none, none]))) (hc : rj_cl ω μ) (hb : ∀ x, 20 ≤ x → x < 25 → sf (b + x) = rj_lm b x) : rj_Sp g yX0_init wsX0_init (rj_rm 4 6) [.ref (ω.2.2 (b + 20))] ω μ (rj_DI ω (b + 25) sf (mX0_init μ b)) := by
  refine ri_of (cc := cX0_init) (nL := 1) (ret := none) (own := RX0) (l0 := [(0, .ref (ω.2.2 (b + 20)))]) rfl (by decide +kernel) rfl rfl (Nat.le_of_ble_eq_true rfl) rfl ?_
  replace hn : ω.1 = b + 21 := by omega
  refine ri_aload_n 0 dX0_init_0 rfl rfl ?_
  refine ri_obj dX0_init_1 rfl wX0_init_3_0 wX0_init_3_1 wX0_init_3_2 (Nat.le_of_ble_eq_true rfl) (Nat.le_of_ble_eq_true rfl) (Nat.le_of_ble_eq_true rfl) ?_
  refine ri_aload_n 0 dX0_init_4 rfl rfl ?_
  refine ri_bipush (v := 12) dX0_init_5 rfl (by decide) ?_
  refine ri_newA (L := fun ad => [(0, .ref (ad (b + 20)))]) (ST := fun ad => [.ref (ad (b + 20))]) (kd := 0) (N := 12) (K := 2) dX0_init_7 rfl wX0_init_arr0_0 rfl (by decide) rfl (fun ad cA => by simp only [rj_av, rj_z, va_up_self]; rfl) (Nat.le_of_ble_eq_true rfl) (Nat.le_of_ble_eq_true rfl) (Nat.le_of_ble_eq_true rfl) (Nat.le_of_ble_eq_true rfl) (Nat.le_of_ble_eq_true rfl) hc (by rw [hn, hs, va_up_ne _ _ (by omega)]; exact (hb _ (by omega) (by omega)).trans (lm_21 b)) (fun ad h => by show _ = _; simp only [h (b + 20) (by omega)]) (fun ad h => by show _ = _; simp only [h (b + 20) (by omega)]) (fun ω1 hn1 hs1 ha1 hc1 => ?_)
  rw [hn] at hn1 hc1 ⊢
  replace hn1 : ω1.1 = b + 22 := by omega
  rw [hs] at hs1
  refine ri_putF (L := fun ad => [(0, .ref (ad (b + 20)))]) (ST := fun ad => []) (C0 := RX0) (T := TX0) (N := 7) (j := 0) (k := (b + 20)) (r := (b + 21)) (fs1 := [some (some ((b + 21) + 1)), none, some (some 0), some (some 0), some (some 0), none, none]) dX0_init_9 rfl vX0_init_0 rfl (by omega) (by omega) hs1 (by decide) kX0_init_9 tyX0 tyX0_ok nmX0 rfl (fun _ h => h) rfl (Nat.le_of_ble_eq_true rfl) ⟨_, rfl⟩ (fun _ => rfl) (fun _ => rfl) hc1 rfl (fun ω2 hn2 hs2 ha2 hc2 => ?_)
  rw [hn1] at hn2
  refine ri_aload_n 0 dX0_init_12 rfl rfl ?_
  refine ri_iconst (v := 0) dX0_init_13 rfl (by decide) ?_
  refine ri_putI (C0 := RX0) (T := TX0) (N := 7) (j := 1) dX0_init_14 rfl vX0_init_0 rfl (by omega) (by rw [hs2, va_up_self]) (by decide) kX0_init_15 tyX0 tyX0_ok nmX0 rfl rfl rfl rfl ?_
  have hd2 := hc2.same (μ' := (rj_pi (rj_z μ (b + 21)) (b + 20) 1 0)) rfl
  refine ri_aload_n 0 dX0_init_17 rfl rfl ?_
  refine ri_bipush (v := 12) dX0_init_18 rfl (by decide) ?_
  refine ri_newA (L := fun ad => [(0, .ref (ad (b + 20)))]) (ST := fun ad => [.ref (ad (b + 20))]) (kd := 0) (N := 12) (K := 2) dX0_init_20 rfl wX0_init_arr0_0 rfl (by decide) rfl (fun ad cA => by simp only [rj_av, rj_z, va_up_self]; rfl) (Nat.le_of_ble_eq_true rfl) (Nat.le_of_ble_eq_true rfl) (Nat.le_of_ble_eq_true rfl) (Nat.le_of_ble_eq_true rfl) (Nat.le_of_ble_eq_true rfl) hd2 (by rw [hn2, hs2, va_up_ne _ _ (by omega)]; exact (hb _ (by omega) (by omega)).trans (lm_22 b)) (fun ad h => by show _ = _; simp only [h (b + 20) (by omega)]) (fun ad h => by show _ = _; simp only [h (b + 20) (by omega)]) (fun ω3 hn3 hs3 ha3 hc3 => ?_)
  rw [hn2] at hn3 hc3 ⊢
  replace hn3 : ω3.1 = b + 23 := by omega
  rw [hs2] at hs3
  refine ri_putF (L := fun ad => [(0, .ref (ad (b + 20)))]) (ST := fun ad => []) (C0 := RX0) (T := TX0) (N := 7) (j := 2) (k := (b + 20)) (r := (b + 22)) (fs1 := [some (some ((b + 21) + 1)), none, some (some ((b + 22) + 1)), some (some 0), some (some 0), none, none]) dX0_init_22 rfl vX0_init_0 rfl (by omega) (by omega) hs3 (by decide) kX0_init_19 tyX0 tyX0_ok nmX0 rfl (fun _ h => h) rfl (Nat.le_of_ble_eq_true rfl) ⟨_, rfl⟩ (fun _ => rfl) (fun _ => rfl) hc3 rfl (fun ω4 hn4 hs4 ha4 hc4 => ?_)
  rw [hn3] at hn4
  refine ri_aload_n 0 dX0_init_25 rfl rfl ?_
  refine ri_iconst (v := 3) dX0_init_26 rfl (by decide) ?_
  refine ri_newA (L := fun ad => [(0, .ref (ad (b + 20)))]) (ST := fun ad => [.ref (ad (b + 20))]) (kd := 0) (N := 3) (K := 1) dX0_init_27 rfl wX0_init_arr0_0 rfl (by decide) rfl (fun ad cA => by simp only [rj_av, rj_z, va_up_self]; rfl) (Nat.le_of_ble_eq_true rfl) (Nat.le_of_ble_eq_true rfl) (Nat.le_of_ble_eq_true rfl) (Nat.le_of_ble_eq_true rfl) (Nat.le_of_ble_eq_true rfl) hc4 (by rw [hn4, hs4, va_up_ne _ _ (by omega)]; exact (hb _ (by omega) (by omega)).trans (lm_23 b)) (fun ad h => by show _ = _; simp only [h (b + 20) (by omega)]) (fun ad h => by show _ = _; simp only [h (b + 20) (by omega)]) (fun ω5 hn5 hs5 ha5 hc5 => ?_)
  rw [hn4] at hn5 hc5 ⊢
  replace hn5 : ω5.1 = b + 24 := by omega
  rw [hs4] at hs5
  refine ri_putF (L := fun ad => [(0, .ref (ad (b + 20)))]) (ST := fun ad => []) (C0 := RX0) (T := TX0) (N := 7) (j := 3) (k := (b + 20)) (r := (b + 23)) (fs1 := [some (some ((b + 21) + 1)), none, some (some ((b + 22) + 1)), some (some ((b + 23) + 1)), some (some 0), none, none]) dX0_init_29 rfl vX0_init_0 rfl (by omega) (by omega) hs5 (by decide) kX0_init_22 tyX0 tyX0_ok nmX0 rfl (fun _ h => h) rfl (Nat.le_of_ble_eq_true rfl) ⟨_, rfl⟩ (fun _ => rfl) (fun _ => rfl) hc5 rfl (fun ω6 hn6 hs6 ha6 hc6 => ?_)
  rw [hn5] at hn6
  refine ri_aload_n 0 dX0_init_32 rfl rfl ?_
  refine ri_iconst (v := 3) dX0_init_33 rfl (by decide) ?_
  refine ri_newA (L := fun ad => [(0, .ref (ad (b + 20)))]) (ST := fun ad => [.ref (ad (b + 20))]) (kd := 0) (N := 3) (K := 1) dX0_init_34 rfl wX0_init_arr0_0 rfl (by decide) rfl (fun ad cA => by simp only [rj_av, rj_z, va_up_self]; rfl) (Nat.le_of_ble_eq_true rfl) (Nat.le_of_ble_eq_true rfl) (Nat.le_of_ble_eq_true rfl) (Nat.le_of_ble_eq_true rfl) (Nat.le_of_ble_eq_true rfl) hc6 (by rw [hn6, hs6, va_up_ne _ _ (by omega)]; exact (hb _ (by omega) (by omega)).trans (lm_24 b)) (fun ad h => by show _ = _; simp only [h (b + 20) (by omega)]) (fun ad h => by show _ = _; simp only [h (b + 20) (by omega)]) (fun ω7 hn7 hs7 ha7 hc7 => ?_)
  rw [hn6] at hn7 hc7 ⊢
  replace hn7 : ω7.1 = b + 25 := by omega
  rw [hs6] at hs7
  refine ri_putF (L := fun ad => [(0, .ref (ad (b + 20)))]) (ST := fun ad => []) (C0 := RX0) (T := TX0) (N := 7) (j := 4) (k := (b + 20)) (r := (b + 24)) (fs1 := [some (some ((b + 21) + 1)), none, some (some ((b + 22) + 1)), some (some ((b + 23) + 1)), some (some ((b + 24) + 1)), none, none]) dX0_init_36 rfl vX0_init_0 rfl (by omega) (by omega) hs7 (by decide) kX0_init_25 tyX0 tyX0_ok nmX0 rfl (fun _ h => h) rfl (Nat.le_of_ble_eq_true rfl) ⟨_, rfl⟩ (fun _ => rfl) (fun _ => rfl) hc7 rfl (fun ω8 hn8 hs8 ha8 hc8 => ?_)
  rw [hn7] at hn8
  refine ri_aload_n 0 dX0_init_39 rfl rfl ?_
  refine ri_iconst (v := 3) dX0_init_40 rfl (by decide) ?_
  refine ri_putI (C0 := RX0) (T := TX0) (N := 7) (j := 5) dX0_init_41 rfl vX0_init_0 rfl (by omega) (by rw [hs8, va_up_self]) (by decide) kX0_init_28 tyX0 tyX0_ok nmX0 rfl rfl rfl rfl ?_
  have hd8 := hc8.same (μ' := (rj_pi (rj_z (rj_z (rj_z (rj_pi (rj_z μ (b + 21)) (b + 20) 1 0) (b + 22)) (b + 23)) (b + 24)) (b + 20) 5 3)) rfl
  refine ri_aload_n 0 dX0_init_44 rfl rfl ?_
  refine ri_iconst (v := 0) dX0_init_45 rfl (by decide) ?_
  refine ri_putI (C0 := RX0) (T := TX0) (N := 7) (j := 6) dX0_init_46 rfl vX0_init_0 rfl (by omega) (by rw [hs8, va_up_self]) (by decide) kX0_init_31 tyX0 tyX0_ok nmX0 rfl rfl rfl rfl ?_
  have hd8 := hd8.same (μ' := (rj_pi (rj_pi (rj_z (rj_z (rj_z (rj_pi (rj_z μ (b + 21)) (b + 20) 1 0) (b + 22)) (b + 23)) (b + 24)) (b + 20) 5 3) (b + 20) 6 0)) rfl
  refine ri_aload_n 0 dX0_init_49 rfl rfl ?_
  have hsF : ω8.2.1 = sf := hs8.trans (va_up_id ((hb 20 (by omega) (by omega)).trans (lm_20 b)))
  have hB : rj_bs ω8 b 20 25 := fun o h1 h2 => ⟨by omega, by rw [hsF]; exact hb o h1 h2⟩
  exact rj_RI.of (tX0_init (ω := ω8) ((rj_pi (rj_pi (rj_z (rj_z (rj_z (rj_pi (rj_z μ (b + 21)) (b + 20) 1 0) (b + 22)) (b + 23)) (b + 24)) (b + 20) 5 3) (b + 20) 6 0)) b hB ⟨rfl, (fun j hj => (((fun j _ => congrFun ha8 j) j (by omega)).trans ((ha7 j (by omega)).trans (((fun j _ => congrFun ha6 j) j (by omega)).trans ((ha5 j (by omega)).trans (((fun j _ => congrFun ha4 j) j (by omega)).trans ((ha3 j (by omega)).trans (((fun j _ => congrFun ha2 j) j (by omega)).trans (ha1 j (by omega)))))))))), hn8, hsF, rfl, hd8.same (rf_X0_init ((rj_pi (rj_pi (rj_z (rj_z (rj_z (rj_pi (rj_z μ (b + 21)) (b + 20) 1 0) (b + 22)) (b + 23)) (b + 24)) (b + 20) 5 3) (b + 20) 6 0)) b)⟩)
