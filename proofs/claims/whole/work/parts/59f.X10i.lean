theorem wX10_init_3_0 : Cond.methodLink RX10 3 Lib.objectInit ∈ wsX10_init := by decide +kernel
theorem wX10_init_3_1 : Cond.instanceMethod Lib.objectInit ∈ wsX10_init := by decide +kernel
theorem wX10_init_3_2 : Cond.code Lib.objectInit ⟨#[0xb1]⟩ 1 none ∈ wsX10_init := by decide +kernel
theorem wX10_init_arr0_0 : Cond.arrayClass .int ∈ wsX10_init := by decide +kernel
theorem kX10_init_9 : Cond.fieldLink RX10 9 (TX10 0).1 (TX10 0).2.1 (TX10 0).2.2.1 ∈ wsX10_init := by decide +kernel
theorem vX10_init_10 : ∀ w ∈ u_ws RX10 TX10 4, w ∈ wsX10_init := by decide +kernel
theorem kX10_init_15 : Cond.fieldLink RX10 15 (TX10 1).1 (TX10 1).2.1 (TX10 1).2.2.1 ∈ wsX10_init := by decide +kernel
theorem kX10_init_19 : Cond.fieldLink RX10 19 (TX10 2).1 (TX10 2).2.1 (TX10 2).2.2.1 ∈ wsX10_init := by decide +kernel
theorem kX10_init_22 : Cond.fieldLink RX10 22 (TX10 3).1 (TX10 3).2.1 (TX10 3).2.2.1 ∈ wsX10_init := by decide +kernel
def mX10_init (μ : rj_M) (b : Nat) : rj_M := (rj_z (rj_z (rj_pi (rj_z μ (b + 26)) (b + 25) 1 8) (b + 27)) (b + 28))
set_option maxHeartbeats 40000000 in
set_option maxRecDepth 100000 in
theorem sX10_init {g : rj_G} {ω : rj_W} (μ : rj_M) (b : Nat) (sf : Nat → rj_Sh) (hn : ω.1 = b + 25 + 1) (hs : ω.2.1 = va_up sf (b + 25) (.inr (10, [some (some 0), none, some (some 0), some (some 0)]))) (hc : rj_cl ω μ) (hb : ∀ x, 25 ≤ x → x < 29 → sf (b + x) = rj_lm b x) : rj_Sp g yX10_init wsX10_init (rj_rm 4 11) [.ref (ω.2.2 (b + 25))] ω μ (rj_DI ω (b + 29) sf (mX10_init μ b)) := by
  refine ri_of (cc := cX10_init) (nL := 1) (ret := none) (own := RX10) (l0 := [(0, .ref (ω.2.2 (b + 25)))]) rfl (by decide +kernel) rfl rfl (Nat.le_of_ble_eq_true rfl) rfl ?_
  replace hn : ω.1 = b + 26 := by omega
  refine ri_aload_n 0 dX10_init_0 rfl rfl ?_
  refine ri_obj dX10_init_1 rfl wX10_init_3_0 wX10_init_3_1 wX10_init_3_2 (Nat.le_of_ble_eq_true rfl) (Nat.le_of_ble_eq_true rfl) (Nat.le_of_ble_eq_true rfl) ?_
  refine ri_aload_n 0 dX10_init_4 rfl rfl ?_
  refine ri_bipush (v := 24) dX10_init_5 rfl (by decide) ?_
  refine ri_newA (L := fun ad => [(0, .ref (ad (b + 25)))]) (ST := fun ad => [.ref (ad (b + 25))]) (kd := 0) (N := 24) (K := 3) dX10_init_7 rfl wX10_init_arr0_0 rfl (by decide) rfl (fun ad cA => by simp only [rj_av, rj_z, va_up_self]; rfl) (Nat.le_of_ble_eq_true rfl) (Nat.le_of_ble_eq_true rfl) (Nat.le_of_ble_eq_true rfl) (Nat.le_of_ble_eq_true rfl) (Nat.le_of_ble_eq_true rfl) hc (by rw [hn, hs, va_up_ne _ _ (by omega)]; exact (hb _ (by omega) (by omega)).trans (lm_26 b)) (fun ad h => by show _ = _; simp only [h (b + 25) (by omega)]) (fun ad h => by show _ = _; simp only [h (b + 25) (by omega)]) (fun ω1 hn1 hs1 ha1 hc1 => ?_)
  rw [hn] at hn1 hc1 ⊢
  replace hn1 : ω1.1 = b + 27 := by omega
  rw [hs] at hs1
  refine ri_putF (L := fun ad => [(0, .ref (ad (b + 25)))]) (ST := fun ad => []) (C0 := RX10) (T := TX10) (N := 4) (j := 0) (k := (b + 25)) (r := (b + 26)) (fs1 := [some (some ((b + 26) + 1)), none, some (some 0), some (some 0)]) dX10_init_9 rfl vX10_init_10 rfl (by omega) (by omega) hs1 (by decide) kX10_init_9 tyX10 tyX10_ok nmX10 rfl (fun _ h => h) rfl (Nat.le_of_ble_eq_true rfl) ⟨_, rfl⟩ (fun _ => rfl) (fun _ => rfl) hc1 rfl (fun ω2 hn2 hs2 ha2 hc2 => ?_)
  rw [hn1] at hn2
  refine ri_aload_n 0 dX10_init_12 rfl rfl ?_
  refine ri_bipush (v := 8) dX10_init_13 rfl (by decide) ?_
  refine ri_putI (C0 := RX10) (T := TX10) (N := 4) (j := 1) dX10_init_15 rfl vX10_init_10 rfl (by omega) (by rw [hs2, va_up_self]) (by decide) kX10_init_15 tyX10 tyX10_ok nmX10 rfl rfl rfl rfl ?_
  have hd2 := hc2.same (μ' := (rj_pi (rj_z μ (b + 26)) (b + 25) 1 8)) rfl
  refine ri_aload_n 0 dX10_init_18 rfl rfl ?_
  refine ri_bipush (v := 24) dX10_init_19 rfl (by decide) ?_
  refine ri_newA (L := fun ad => [(0, .ref (ad (b + 25)))]) (ST := fun ad => [.ref (ad (b + 25))]) (kd := 0) (N := 24) (K := 3) dX10_init_21 rfl wX10_init_arr0_0 rfl (by decide) rfl (fun ad cA => by simp only [rj_av, rj_z, va_up_self]; rfl) (Nat.le_of_ble_eq_true rfl) (Nat.le_of_ble_eq_true rfl) (Nat.le_of_ble_eq_true rfl) (Nat.le_of_ble_eq_true rfl) (Nat.le_of_ble_eq_true rfl) hd2 (by rw [hn2, hs2, va_up_ne _ _ (by omega)]; exact (hb _ (by omega) (by omega)).trans (lm_27 b)) (fun ad h => by show _ = _; simp only [h (b + 25) (by omega)]) (fun ad h => by show _ = _; simp only [h (b + 25) (by omega)]) (fun ω3 hn3 hs3 ha3 hc3 => ?_)
  rw [hn2] at hn3 hc3 ⊢
  replace hn3 : ω3.1 = b + 28 := by omega
  rw [hs2] at hs3
  refine ri_putF (L := fun ad => [(0, .ref (ad (b + 25)))]) (ST := fun ad => []) (C0 := RX10) (T := TX10) (N := 4) (j := 2) (k := (b + 25)) (r := (b + 27)) (fs1 := [some (some ((b + 26) + 1)), none, some (some ((b + 27) + 1)), some (some 0)]) dX10_init_23 rfl vX10_init_10 rfl (by omega) (by omega) hs3 (by decide) kX10_init_19 tyX10 tyX10_ok nmX10 rfl (fun _ h => h) rfl (Nat.le_of_ble_eq_true rfl) ⟨_, rfl⟩ (fun _ => rfl) (fun _ => rfl) hc3 rfl (fun ω4 hn4 hs4 ha4 hc4 => ?_)
  rw [hn3] at hn4
  refine ri_aload_n 0 dX10_init_26 rfl rfl ?_
  refine ri_bipush (v := 34) dX10_init_27 rfl (by decide) ?_
  refine ri_newA (L := fun ad => [(0, .ref (ad (b + 25)))]) (ST := fun ad => [.ref (ad (b + 25))]) (kd := 0) (N := 34) (K := 5) dX10_init_29 rfl wX10_init_arr0_0 rfl (by decide) rfl (fun ad cA => by simp only [rj_av, rj_z, va_up_self]; rfl) (Nat.le_of_ble_eq_true rfl) (Nat.le_of_ble_eq_true rfl) (Nat.le_of_ble_eq_true rfl) (Nat.le_of_ble_eq_true rfl) (Nat.le_of_ble_eq_true rfl) hc4 (by rw [hn4, hs4, va_up_ne _ _ (by omega)]; exact (hb _ (by omega) (by omega)).trans (lm_28 b)) (fun ad h => by show _ = _; simp only [h (b + 25) (by omega)]) (fun ad h => by show _ = _; simp only [h (b + 25) (by omega)]) (fun ω5 hn5 hs5 ha5 hc5 => ?_)
  rw [hn4] at hn5 hc5 ⊢
  replace hn5 : ω5.1 = b + 29 := by omega
  rw [hs4] at hs5
  refine ri_putF (L := fun ad => [(0, .ref (ad (b + 25)))]) (ST := fun ad => []) (C0 := RX10) (T := TX10) (N := 4) (j := 3) (k := (b + 25)) (r := (b + 28)) (fs1 := [some (some ((b + 26) + 1)), none, some (some ((b + 27) + 1)), some (some ((b + 28) + 1))]) dX10_init_31 rfl vX10_init_10 rfl (by omega) (by omega) hs5 (by decide) kX10_init_22 tyX10 tyX10_ok nmX10 rfl (fun _ h => h) rfl (Nat.le_of_ble_eq_true rfl) ⟨_, rfl⟩ (fun _ => rfl) (fun _ => rfl) hc5 rfl (fun ω6 hn6 hs6 ha6 hc6 => ?_)
  rw [hn5] at hn6
  have hsF : ω6.2.1 = sf := hs6.trans (va_up_id ((hb 25 (by omega) (by omega)).trans (lm_25 b)))
  exact rj_RI.of (rj_vret dX10_init_34 rfl (Nat.le_of_ble_eq_true rfl) (Nat.le_of_ble_eq_true rfl) ⟨rfl, (fun j hj => (((fun j _ => congrFun ha6 j) j (by omega)).trans ((ha5 j (by omega)).trans (((fun j _ => congrFun ha4 j) j (by omega)).trans ((ha3 j (by omega)).trans (((fun j _ => congrFun ha2 j) j (by omega)).trans (ha1 j (by omega)))))))), hn6, hsF, rfl, hc6⟩)
