theorem vX3_init_3 : ∀ w ∈ u_ws RX3 TX3 3, w ∈ wsX3_init := by decide +kernel
theorem kX3_init_15 : Cond.fieldLink RX3 15 (TX3 1).1 (TX3 1).2.1 (TX3 1).2.2.1 ∈ wsX3_init := by decide +kernel
theorem jX3_init_21_i : Cond.initialized yX11_fillRow.cls ∈ wsX3_init := by decide +kernel
theorem jX3_init_21_s : Cond.static yX11_fillRow ∈ wsX3_init := by decide +kernel
theorem jX3_init_21_n : (RX3, 21, yX11_fillRow, "Festivalgrounds") ∈ rj_nw := by decide +kernel
def mtX3_init (μ : rj_M) (b : Nat) : rj_M := (mX11_fillRow μ (b + 18) 12 10)
set_option maxHeartbeats 40000000 in
set_option maxRecDepth 100000 in
theorem tX3_init {g : rj_G} {ω : rj_W} (μ : rj_M) (b : Nat)  (hB : rj_bs ω b 16 20)  {P : rj_P} (hP : P (.inl none) ω (mtX3_init μ b)) : rj_R g RX3 cX3_init 1 none wsX3_init [] (rj_rm 4 4) (rj_E g (rj_rm 4 4) P) 4 ω μ [(0, .ref (ω.2.2 (b + 16)))] 27 [.ref (ω.2.2 (b + 16))] := by
  refine rj_getR (C0 := RX3) (T := TX3) (N := 3) (j := 1) (r := (b + 18)) dX3_init_27 rfl vX3_init_3 rfl (hB.lt (o := 16) rfl rfl) (hB.sh (o := 16) rfl (lm_16 _) rfl) (by decide) kX3_init_15 rfl ?_
  refine rj_bipush (v := 10) dX3_init_30 rfl (by decide) ?_
  refine rj_cSN (rest := []) (sX11_fillRow (g := g) (ω := ω) μ (b + 18) 12 10 (hB.lt (o := 18) rfl rfl) (hB.sh (o := 18) rfl (lm_18 _) rfl) (rj_bl rfl)  ) ggX3_init_X11_fillRow jX3_init_21_i jX3_init_21_s jX3_init_21_n rfl hSX11_fillRow ⟨Nat.le_of_ble_eq_true rfl, Nat.le_of_ble_eq_true rfl⟩ dX3_init_32 rfl rfl rfl (Nat.le_of_ble_eq_true rfl) rfl (Nat.le_of_ble_eq_true rfl) rfl ?_
  exact rj_vret dX3_init_35 rfl (Nat.le_of_ble_eq_true rfl) (Nat.le_of_ble_eq_true rfl) (by have e3 : mtX3_init μ b = (mX11_fillRow μ (b + 18) 12 10) := (by unfold mtX3_init; rfl); rw [e3] at hP; exact hP)
theorem rf_X3_init (μ : rj_M) (b : Nat) : (mtX3_init μ b).2.2.2 = μ.2.2.2 := by
  unfold mtX3_init
  rw [rf_fillRow]
theorem wX3_init_3_0 : Cond.methodLink RX3 3 Lib.objectInit ∈ wsX3_init := by decide +kernel
theorem wX3_init_3_1 : Cond.instanceMethod Lib.objectInit ∈ wsX3_init := by decide +kernel
theorem wX3_init_3_2 : Cond.code Lib.objectInit ⟨#[0xb1]⟩ 1 none ∈ wsX3_init := by decide +kernel
theorem wX3_init_arr0_0 : Cond.arrayClass .int ∈ wsX3_init := by decide +kernel
theorem kX3_init_9 : Cond.fieldLink RX3 9 (TX3 0).1 (TX3 0).2.1 (TX3 0).2.2.1 ∈ wsX3_init := by decide +kernel
theorem kX3_init_18 : Cond.fieldLink RX3 18 (TX3 2).1 (TX3 2).2.1 (TX3 2).2.2.1 ∈ wsX3_init := by decide +kernel
def mX3_init (μ : rj_M) (b : Nat) : rj_M := (mtX3_init (rj_z (rj_z (rj_z μ (b + 17)) (b + 18)) (b + 19)) b)
set_option maxHeartbeats 40000000 in
set_option maxRecDepth 100000 in
theorem sX3_init {g : rj_G} {ω : rj_W} (μ : rj_M) (b : Nat) (sf : Nat → rj_Sh) (hn : ω.1 = b + 16 + 1) (hs : ω.2.1 = va_up sf (b + 16) (.inr (3, [some (some 0), some (some 0), some (some 0)]))) (hc : rj_cl ω μ) (hb : ∀ x, 16 ≤ x → x < 20 → sf (b + x) = rj_lm b x) : rj_Sp g yX3_init wsX3_init (rj_rm 4 4) [.ref (ω.2.2 (b + 16))] ω μ (rj_DI ω (b + 20) sf (mX3_init μ b)) := by
  refine ri_of (cc := cX3_init) (nL := 1) (ret := none) (own := RX3) (l0 := [(0, .ref (ω.2.2 (b + 16)))]) rfl (by decide +kernel) rfl rfl (Nat.le_of_ble_eq_true rfl) rfl ?_
  replace hn : ω.1 = b + 17 := by omega
  refine ri_aload_n 0 dX3_init_0 rfl rfl ?_
  refine ri_obj dX3_init_1 rfl wX3_init_3_0 wX3_init_3_1 wX3_init_3_2 (Nat.le_of_ble_eq_true rfl) (Nat.le_of_ble_eq_true rfl) (Nat.le_of_ble_eq_true rfl) ?_
  refine ri_aload_n 0 dX3_init_4 rfl rfl ?_
  refine ri_iconst (v := 3) dX3_init_5 rfl (by decide) ?_
  refine ri_newA (L := fun ad => [(0, .ref (ad (b + 16)))]) (ST := fun ad => [.ref (ad (b + 16))]) (kd := 0) (N := 3) (K := 1) dX3_init_6 rfl wX3_init_arr0_0 rfl (by decide) rfl (fun ad cA => by simp only [rj_av, rj_z, va_up_self]; rfl) (Nat.le_of_ble_eq_true rfl) (Nat.le_of_ble_eq_true rfl) (Nat.le_of_ble_eq_true rfl) (Nat.le_of_ble_eq_true rfl) (Nat.le_of_ble_eq_true rfl) hc (by rw [hn, hs, va_up_ne _ _ (by omega)]; exact (hb _ (by omega) (by omega)).trans (lm_17 b)) (fun ad h => by show _ = _; simp only [h (b + 16) (by omega)]) (fun ad h => by show _ = _; simp only [h (b + 16) (by omega)]) (fun ω1 hn1 hs1 ha1 hc1 => ?_)
  rw [hn] at hn1 hc1 ⊢
  replace hn1 : ω1.1 = b + 18 := by omega
  rw [hs] at hs1
  refine ri_putF (L := fun ad => [(0, .ref (ad (b + 16)))]) (ST := fun ad => []) (C0 := RX3) (T := TX3) (N := 3) (j := 0) (k := (b + 16)) (r := (b + 17)) (fs1 := [some (some ((b + 17) + 1)), some (some 0), some (some 0)]) dX3_init_8 rfl vX3_init_3 rfl (by omega) (by omega) hs1 (by decide) kX3_init_9 tyX3 tyX3_ok nmX3 rfl (fun _ h => h) rfl (Nat.le_of_ble_eq_true rfl) ⟨_, rfl⟩ (fun _ => rfl) (fun _ => rfl) hc1 rfl (fun ω2 hn2 hs2 ha2 hc2 => ?_)
  rw [hn1] at hn2
  refine ri_aload_n 0 dX3_init_11 rfl rfl ?_
  refine ri_bipush (v := 12) dX3_init_12 rfl (by decide) ?_
  refine ri_newA (L := fun ad => [(0, .ref (ad (b + 16)))]) (ST := fun ad => [.ref (ad (b + 16))]) (kd := 0) (N := 12) (K := 2) dX3_init_14 rfl wX3_init_arr0_0 rfl (by decide) rfl (fun ad cA => by simp only [rj_av, rj_z, va_up_self]; rfl) (Nat.le_of_ble_eq_true rfl) (Nat.le_of_ble_eq_true rfl) (Nat.le_of_ble_eq_true rfl) (Nat.le_of_ble_eq_true rfl) (Nat.le_of_ble_eq_true rfl) hc2 (by rw [hn2, hs2, va_up_ne _ _ (by omega)]; exact (hb _ (by omega) (by omega)).trans (lm_18 b)) (fun ad h => by show _ = _; simp only [h (b + 16) (by omega)]) (fun ad h => by show _ = _; simp only [h (b + 16) (by omega)]) (fun ω3 hn3 hs3 ha3 hc3 => ?_)
  rw [hn2] at hn3 hc3 ⊢
  replace hn3 : ω3.1 = b + 19 := by omega
  rw [hs2] at hs3
  refine ri_putF (L := fun ad => [(0, .ref (ad (b + 16)))]) (ST := fun ad => []) (C0 := RX3) (T := TX3) (N := 3) (j := 1) (k := (b + 16)) (r := (b + 18)) (fs1 := [some (some ((b + 17) + 1)), some (some ((b + 18) + 1)), some (some 0)]) dX3_init_16 rfl vX3_init_3 rfl (by omega) (by omega) hs3 (by decide) kX3_init_15 tyX3 tyX3_ok nmX3 rfl (fun _ h => h) rfl (Nat.le_of_ble_eq_true rfl) ⟨_, rfl⟩ (fun _ => rfl) (fun _ => rfl) hc3 rfl (fun ω4 hn4 hs4 ha4 hc4 => ?_)
  rw [hn3] at hn4
  refine ri_aload_n 0 dX3_init_19 rfl rfl ?_
  refine ri_iconst (v := 4) dX3_init_20 rfl (by decide) ?_
  refine ri_newA (L := fun ad => [(0, .ref (ad (b + 16)))]) (ST := fun ad => [.ref (ad (b + 16))]) (kd := 0) (N := 4) (K := 1) dX3_init_21 rfl wX3_init_arr0_0 rfl (by decide) rfl (fun ad cA => by simp only [rj_av, rj_z, va_up_self]; rfl) (Nat.le_of_ble_eq_true rfl) (Nat.le_of_ble_eq_true rfl) (Nat.le_of_ble_eq_true rfl) (Nat.le_of_ble_eq_true rfl) (Nat.le_of_ble_eq_true rfl) hc4 (by rw [hn4, hs4, va_up_ne _ _ (by omega)]; exact (hb _ (by omega) (by omega)).trans (lm_19 b)) (fun ad h => by show _ = _; simp only [h (b + 16) (by omega)]) (fun ad h => by show _ = _; simp only [h (b + 16) (by omega)]) (fun ω5 hn5 hs5 ha5 hc5 => ?_)
  rw [hn4] at hn5 hc5 ⊢
  replace hn5 : ω5.1 = b + 20 := by omega
  rw [hs4] at hs5
  refine ri_putF (L := fun ad => [(0, .ref (ad (b + 16)))]) (ST := fun ad => []) (C0 := RX3) (T := TX3) (N := 3) (j := 2) (k := (b + 16)) (r := (b + 19)) (fs1 := [some (some ((b + 17) + 1)), some (some ((b + 18) + 1)), some (some ((b + 19) + 1))]) dX3_init_23 rfl vX3_init_3 rfl (by omega) (by omega) hs5 (by decide) kX3_init_18 tyX3 tyX3_ok nmX3 rfl (fun _ h => h) rfl (Nat.le_of_ble_eq_true rfl) ⟨_, rfl⟩ (fun _ => rfl) (fun _ => rfl) hc5 rfl (fun ω6 hn6 hs6 ha6 hc6 => ?_)
  rw [hn5] at hn6
  refine ri_aload_n 0 dX3_init_26 rfl rfl ?_
  have hsF : ω6.2.1 = sf := hs6.trans (va_up_id ((hb 16 (by omega) (by omega)).trans (lm_16 b)))
  have hB : rj_bs ω6 b 16 20 := fun o h1 h2 => ⟨by omega, by rw [hsF]; exact hb o h1 h2⟩
  exact rj_RI.of (tX3_init (ω := ω6) ((rj_z (rj_z (rj_z μ (b + 17)) (b + 18)) (b + 19))) b hB ⟨rfl, (fun j hj => (((fun j _ => congrFun ha6 j) j (by omega)).trans ((ha5 j (by omega)).trans (((fun j _ => congrFun ha4 j) j (by omega)).trans ((ha3 j (by omega)).trans (((fun j _ => congrFun ha2 j) j (by omega)).trans (ha1 j (by omega)))))))), hn6, hsF, rfl, hc6.same (rf_X3_init ((rj_z (rj_z (rj_z μ (b + 17)) (b + 18)) (b + 19))) b)⟩)
