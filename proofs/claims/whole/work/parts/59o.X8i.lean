theorem vX8_init_8 : ∀ w ∈ u_ws RX8 TX8 5, w ∈ wsX8_init := by decide +kernel
theorem kX8_init_9 : Cond.fieldLink RX8 9 (TX8 0).1 (TX8 0).2.1 (TX8 0).2.2.1 ∈ wsX8_init := by decide +kernel
theorem jX8_init_29_i : Cond.initialized yX11_fillRow.cls ∈ wsX8_init := by decide +kernel
theorem jX8_init_29_s : Cond.static yX11_fillRow ∈ wsX8_init := by decide +kernel
theorem jX8_init_29_n : (RX8, 29, yX11_fillRow, "Festivalgrounds") ∈ rj_nw := by decide +kernel
theorem kX8_init_15 : Cond.fieldLink RX8 15 (TX8 1).1 (TX8 1).2.1 (TX8 1).2.2.1 ∈ wsX8_init := by decide +kernel
def mtX8_init (μ : rj_M) (b : Nat) : rj_M := (mX11_fillRow (mX11_fillRow μ (b + 39) 4 20) (b + 40) 48 (-1))
set_option maxHeartbeats 40000000 in
set_option maxRecDepth 100000 in
theorem tX8_init {g : rj_G} {ω : rj_W} (μ : rj_M) (b : Nat)  (hB : rj_bs ω b 38 43)  {P : rj_P} (hP : P (.inl none) ω (mtX8_init μ b)) : rj_R g RX8 cX8_init 1 none wsX8_init [] (rj_rm 4 11) (rj_E g (rj_rm 4 11) P) 11 ω μ [(0, .ref (ω.2.2 (b + 38)))] 41 [.ref (ω.2.2 (b + 38))] := by
  refine rj_getR (C0 := RX8) (T := TX8) (N := 5) (j := 0) (r := (b + 39)) dX8_init_41 rfl vX8_init_8 rfl (hB.lt (o := 38) rfl rfl) (hB.sh (o := 38) rfl (lm_38 _) rfl) (by decide) kX8_init_9 rfl ?_
  refine rj_bipush (v := 20) dX8_init_44 rfl (by decide) ?_
  refine rj_cSN (rest := []) (sX11_fillRow (g := g) (ω := ω) μ (b + 39) 4 20 (hB.lt (o := 39) rfl rfl) (hB.sh (o := 39) rfl (lm_39 _) rfl) (rj_bl rfl)  ) ggX8_init_X11_fillRow jX8_init_29_i jX8_init_29_s jX8_init_29_n rfl hSX11_fillRow ⟨Nat.le_of_ble_eq_true rfl, Nat.le_of_ble_eq_true rfl⟩ dX8_init_46 rfl rfl rfl (Nat.le_of_ble_eq_true rfl) rfl (Nat.le_of_ble_eq_true rfl) rfl ?_
  refine rj_aload_n 0 dX8_init_49 rfl rfl ?_
  refine rj_getR (C0 := RX8) (T := TX8) (N := 5) (j := 1) (r := (b + 40)) dX8_init_50 rfl vX8_init_8 rfl (hB.lt (o := 38) rfl rfl) (hB.sh (o := 38) rfl (lm_38 _) rfl) (by decide) kX8_init_15 rfl ?_
  refine rj_iconst (v := (-1)) dX8_init_53 rfl (by decide) ?_
  refine rj_cSN (rest := []) (sX11_fillRow (g := g) (ω := ω) (mX11_fillRow μ (b + 39) 4 20) (b + 40) 48 (-1) (hB.lt (o := 40) rfl rfl) (hB.sh (o := 40) rfl (lm_40 _) rfl) (rj_bl rfl)  ) ggX8_init_X11_fillRow jX8_init_29_i jX8_init_29_s jX8_init_29_n rfl hSX11_fillRow ⟨Nat.le_of_ble_eq_true rfl, Nat.le_of_ble_eq_true rfl⟩ dX8_init_54 rfl rfl rfl (Nat.le_of_ble_eq_true rfl) rfl (Nat.le_of_ble_eq_true rfl) rfl ?_
  exact rj_vret dX8_init_57 rfl (Nat.le_of_ble_eq_true rfl) (Nat.le_of_ble_eq_true rfl) (by have e3 : mtX8_init μ b = (mX11_fillRow (mX11_fillRow μ (b + 39) 4 20) (b + 40) 48 (-1)) := (by unfold mtX8_init; rfl); rw [e3] at hP; exact hP)
theorem rf_X8_init (μ : rj_M) (b : Nat) : (mtX8_init μ b).2.2.2 = μ.2.2.2 := by
  unfold mtX8_init
  rw [rf_fillRow, rf_fillRow]
theorem wX8_init_3_0 : Cond.methodLink RX8 3 Lib.objectInit ∈ wsX8_init := by decide +kernel
theorem wX8_init_3_1 : Cond.instanceMethod Lib.objectInit ∈ wsX8_init := by decide +kernel
theorem wX8_init_3_2 : Cond.code Lib.objectInit ⟨#[0xb1]⟩ 1 none ∈ wsX8_init := by decide +kernel
theorem wX8_init_arr0_0 : Cond.arrayClass .int ∈ wsX8_init := by decide +kernel
theorem kX8_init_18 : Cond.fieldLink RX8 18 (TX8 2).1 (TX8 2).2.1 (TX8 2).2.2.1 ∈ wsX8_init := by decide +kernel
theorem wX8_init_arr2_0 : Cond.arrayClass .long ∈ wsX8_init := by decide +kernel
theorem kX8_init_22 : Cond.fieldLink RX8 22 (TX8 3).1 (TX8 3).2.1 (TX8 3).2.2.1 ∈ wsX8_init := by decide +kernel
theorem kX8_init_26 : Cond.fieldLink RX8 26 (TX8 4).1 (TX8 4).2.1 (TX8 4).2.2.1 ∈ wsX8_init := by decide +kernel
def mX8_init (μ : rj_M) (b : Nat) : rj_M := (mtX8_init (rj_z (rj_z (rj_pl (rj_z (rj_z μ (b + 39)) (b + 40)) (b + 38) 2 0) (b + 41)) (b + 42)) b)
set_option maxHeartbeats 40000000 in
set_option maxRecDepth 100000 in
theorem sX8_init {g : rj_G} {ω : rj_W} (μ : rj_M) (b : Nat) (sf : Nat → rj_Sh) (hn : ω.1 = b + 38 + 1) (hs : ω.2.1 = va_up sf (b + 38) (.inr (8, [some (some 0), some (some 0), some none, some (some 0), some (some 0)]))) (hc : rj_cl ω μ) (hb : ∀ x, 38 ≤ x → x < 43 → sf (b + x) = rj_lm b x) : rj_Sp g yX8_init wsX8_init (rj_rm 4 11) [.ref (ω.2.2 (b + 38))] ω μ (rj_DI ω (b + 43) sf (mX8_init μ b)) := by
  refine ri_of (cc := cX8_init) (nL := 1) (ret := none) (own := RX8) (l0 := [(0, .ref (ω.2.2 (b + 38)))]) rfl (by decide +kernel) rfl rfl (Nat.le_of_ble_eq_true rfl) rfl ?_
  replace hn : ω.1 = b + 39 := by omega
  refine ri_aload_n 0 dX8_init_0 rfl rfl ?_
  refine ri_obj dX8_init_1 rfl wX8_init_3_0 wX8_init_3_1 wX8_init_3_2 (Nat.le_of_ble_eq_true rfl) (Nat.le_of_ble_eq_true rfl) (Nat.le_of_ble_eq_true rfl) ?_
  refine ri_aload_n 0 dX8_init_4 rfl rfl ?_
  refine ri_iconst (v := 4) dX8_init_5 rfl (by decide) ?_
  refine ri_newA (L := fun ad => [(0, .ref (ad (b + 38)))]) (ST := fun ad => [.ref (ad (b + 38))]) (kd := 0) (N := 4) (K := 1) dX8_init_6 rfl wX8_init_arr0_0 rfl (by decide) rfl (fun ad cA => by simp only [rj_av, rj_z, va_up_self]; rfl) (Nat.le_of_ble_eq_true rfl) (Nat.le_of_ble_eq_true rfl) (Nat.le_of_ble_eq_true rfl) (Nat.le_of_ble_eq_true rfl) (Nat.le_of_ble_eq_true rfl) hc (by rw [hn, hs, va_up_ne _ _ (by omega)]; exact (hb _ (by omega) (by omega)).trans (lm_39 b)) (fun ad h => by show _ = _; simp only [h (b + 38) (by omega)]) (fun ad h => by show _ = _; simp only [h (b + 38) (by omega)]) (fun ω1 hn1 hs1 ha1 hc1 => ?_)
  rw [hn] at hn1 hc1 ⊢
  replace hn1 : ω1.1 = b + 40 := by omega
  rw [hs] at hs1
  have hA1 : ∀ j, j < ω.1 → ω1.2.2 j = ω.2.2 j := fun j hj => ha1 j (by omega)
  clear ha1
  refine ri_putF (L := fun ad => [(0, .ref (ad (b + 38)))]) (ST := fun ad => []) (C0 := RX8) (T := TX8) (N := 5) (j := 0) (k := (b + 38)) (r := (b + 39)) (fs1 := [some (some ((b + 39) + 1)), some (some 0), some none, some (some 0), some (some 0)]) dX8_init_8 rfl vX8_init_8 rfl (by omega) (by omega) hs1 (by decide) kX8_init_9 tyX8 tyX8_ok nmX8 rfl (fun _ h => h) rfl (Nat.le_of_ble_eq_true rfl) ⟨_, rfl⟩ (fun _ => rfl) (fun _ => rfl) hc1 rfl (fun ω2 hn2 hs2 ha2 hc2 => ?_)
  rw [hn1] at hn2
  have hA2 : ∀ j, j < ω.1 → ω2.2.2 j = ω.2.2 j := fun j hj => (congrFun ha2 j).trans (hA1 j hj)
  clear ha2 hA1 hs1 hn1 hc1
  refine ri_aload_n 0 dX8_init_11 rfl rfl ?_
  refine ri_bipush (v := 48) dX8_init_12 rfl (by decide) ?_
  refine ri_newA (L := fun ad => [(0, .ref (ad (b + 38)))]) (ST := fun ad => [.ref (ad (b + 38))]) (kd := 0) (N := 48) (K := 6) dX8_init_14 rfl wX8_init_arr0_0 rfl (by decide) rfl (fun ad cA => by simp only [rj_av, rj_z, va_up_self]; rfl) (Nat.le_of_ble_eq_true rfl) (Nat.le_of_ble_eq_true rfl) (Nat.le_of_ble_eq_true rfl) (Nat.le_of_ble_eq_true rfl) (Nat.le_of_ble_eq_true rfl) hc2 (by rw [hn2, hs2, va_up_ne _ _ (by omega)]; exact (hb _ (by omega) (by omega)).trans (lm_40 b)) (fun ad h => by show _ = _; simp only [h (b + 38) (by omega)]) (fun ad h => by show _ = _; simp only [h (b + 38) (by omega)]) (fun ω3 hn3 hs3 ha3 hc3 => ?_)
  rw [hn2] at hn3 hc3 ⊢
  replace hn3 : ω3.1 = b + 41 := by omega
  rw [hs2] at hs3
  have hA3 : ∀ j, j < ω.1 → ω3.2.2 j = ω.2.2 j := fun j hj => (ha3 j (by omega)).trans (hA2 j hj)
  clear ha3 hA2 hs2 hn2 hc2
  refine ri_putF (L := fun ad => [(0, .ref (ad (b + 38)))]) (ST := fun ad => []) (C0 := RX8) (T := TX8) (N := 5) (j := 1) (k := (b + 38)) (r := (b + 40)) (fs1 := [some (some ((b + 39) + 1)), some (some ((b + 40) + 1)), some none, some (some 0), some (some 0)]) dX8_init_16 rfl vX8_init_8 rfl (by omega) (by omega) hs3 (by decide) kX8_init_15 tyX8 tyX8_ok nmX8 rfl (fun _ h => h) rfl (Nat.le_of_ble_eq_true rfl) ⟨_, rfl⟩ (fun _ => rfl) (fun _ => rfl) hc3 rfl (fun ω4 hn4 hs4 ha4 hc4 => ?_)
  rw [hn3] at hn4
  have hA4 : ∀ j, j < ω.1 → ω4.2.2 j = ω.2.2 j := fun j hj => (congrFun ha4 j).trans (hA3 j hj)
  clear ha4 hA3 hs3 hn3 hc3
  refine ri_aload_n 0 dX8_init_19 rfl rfl ?_
  refine ri_lconst (v := 0) dX8_init_20 rfl (by decide) ?_
  refine ri_putL (C0 := RX8) (T := TX8) (N := 5) (j := 2) dX8_init_21 rfl vX8_init_8 rfl (by omega) (by rw [hs4, va_up_self]) (by decide) kX8_init_18 tyX8 tyX8_ok nmX8 rfl rfl rfl rfl ?_
  have hd4 := hc4.same (μ' := (rj_pl (rj_z (rj_z μ (b + 39)) (b + 40)) (b + 38) 2 0)) rfl
  refine ri_aload_n 0 dX8_init_24 rfl rfl ?_
  refine ri_bipush (v := 12) dX8_init_25 rfl (by decide) ?_
  refine ri_newA (L := fun ad => [(0, .ref (ad (b + 38)))]) (ST := fun ad => [.ref (ad (b + 38))]) (kd := 2) (N := 12) (K := 2) dX8_init_27 rfl wX8_init_arr2_0 rfl (by decide) rfl (fun ad cA => by simp only [rj_av, rj_z, va_up_self]; rfl) (Nat.le_of_ble_eq_true rfl) (Nat.le_of_ble_eq_true rfl) (Nat.le_of_ble_eq_true rfl) (Nat.le_of_ble_eq_true rfl) (Nat.le_of_ble_eq_true rfl) hd4 (by rw [hn4, hs4, va_up_ne _ _ (by omega)]; exact (hb _ (by omega) (by omega)).trans (lm_41 b)) (fun ad h => by show _ = _; simp only [h (b + 38) (by omega)]) (fun ad h => by show _ = _; simp only [h (b + 38) (by omega)]) (fun ω5 hn5 hs5 ha5 hc5 => ?_)
  rw [hn4] at hn5 hc5 ⊢
  replace hn5 : ω5.1 = b + 42 := by omega
  rw [hs4] at hs5
  have hA5 : ∀ j, j < ω.1 → ω5.2.2 j = ω.2.2 j := fun j hj => (ha5 j (by omega)).trans (hA4 j hj)
  clear hd4 ha5 hA4 hs4 hn4 hc4
  refine ri_putF (L := fun ad => [(0, .ref (ad (b + 38)))]) (ST := fun ad => []) (C0 := RX8) (T := TX8) (N := 5) (j := 3) (k := (b + 38)) (r := (b + 41)) (fs1 := [some (some ((b + 39) + 1)), some (some ((b + 40) + 1)), some none, some (some ((b + 41) + 1)), some (some 0)]) dX8_init_29 rfl vX8_init_8 rfl (by omega) (by omega) hs5 (by decide) kX8_init_22 tyX8 tyX8_ok nmX8 rfl (fun _ h => h) rfl (Nat.le_of_ble_eq_true rfl) ⟨_, rfl⟩ (fun _ => rfl) (fun _ => rfl) hc5 rfl (fun ω6 hn6 hs6 ha6 hc6 => ?_)
  rw [hn5] at hn6
  have hA6 : ∀ j, j < ω.1 → ω6.2.2 j = ω.2.2 j := fun j hj => (congrFun ha6 j).trans (hA5 j hj)
  clear ha6 hA5 hs5 hn5 hc5
  refine ri_aload_n 0 dX8_init_32 rfl rfl ?_
  refine ri_bipush (v := 12) dX8_init_33 rfl (by decide) ?_
  refine ri_newA (L := fun ad => [(0, .ref (ad (b + 38)))]) (ST := fun ad => [.ref (ad (b + 38))]) (kd := 2) (N := 12) (K := 2) dX8_init_35 rfl wX8_init_arr2_0 rfl (by decide) rfl (fun ad cA => by simp only [rj_av, rj_z, va_up_self]; rfl) (Nat.le_of_ble_eq_true rfl) (Nat.le_of_ble_eq_true rfl) (Nat.le_of_ble_eq_true rfl) (Nat.le_of_ble_eq_true rfl) (Nat.le_of_ble_eq_true rfl) hc6 (by rw [hn6, hs6, va_up_ne _ _ (by omega)]; exact (hb _ (by omega) (by omega)).trans (lm_42 b)) (fun ad h => by show _ = _; simp only [h (b + 38) (by omega)]) (fun ad h => by show _ = _; simp only [h (b + 38) (by omega)]) (fun ω7 hn7 hs7 ha7 hc7 => ?_)
  rw [hn6] at hn7 hc7 ⊢
  replace hn7 : ω7.1 = b + 43 := by omega
  rw [hs6] at hs7
  have hA7 : ∀ j, j < ω.1 → ω7.2.2 j = ω.2.2 j := fun j hj => (ha7 j (by omega)).trans (hA6 j hj)
  clear ha7 hA6 hs6 hn6 hc6
  refine ri_putF (L := fun ad => [(0, .ref (ad (b + 38)))]) (ST := fun ad => []) (C0 := RX8) (T := TX8) (N := 5) (j := 4) (k := (b + 38)) (r := (b + 42)) (fs1 := [some (some ((b + 39) + 1)), some (some ((b + 40) + 1)), some none, some (some ((b + 41) + 1)), some (some ((b + 42) + 1))]) dX8_init_37 rfl vX8_init_8 rfl (by omega) (by omega) hs7 (by decide) kX8_init_26 tyX8 tyX8_ok nmX8 rfl (fun _ h => h) rfl (Nat.le_of_ble_eq_true rfl) ⟨_, rfl⟩ (fun _ => rfl) (fun _ => rfl) hc7 rfl (fun ω8 hn8 hs8 ha8 hc8 => ?_)
  rw [hn7] at hn8
  have hA8 : ∀ j, j < ω.1 → ω8.2.2 j = ω.2.2 j := fun j hj => (congrFun ha8 j).trans (hA7 j hj)
  clear ha8 hA7 hs7 hn7 hc7
  refine ri_aload_n 0 dX8_init_40 rfl rfl ?_
  have hsF : ω8.2.1 = sf := hs8.trans (va_up_id ((hb 38 (by omega) (by omega)).trans (lm_38 b)))
  have hB : rj_bs ω8 b 38 43 := fun o h1 h2 => ⟨by omega, by rw [hsF]; exact hb o h1 h2⟩
  exact rj_RI.of (tX8_init (ω := ω8) ((rj_z (rj_z (rj_pl (rj_z (rj_z μ (b + 39)) (b + 40)) (b + 38) 2 0) (b + 41)) (b + 42))) b hB ⟨rfl, hA8, hn8, hsF, rfl, hc8.same (rf_X8_init ((rj_z (rj_z (rj_pl (rj_z (rj_z μ (b + 39)) (b + 40)) (b + 38) 2 0) (b + 41)) (b + 42))) b)⟩)
