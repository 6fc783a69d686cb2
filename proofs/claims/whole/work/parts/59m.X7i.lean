theorem wX7_init_3_0 : Cond.methodLink RX7 3 Lib.objectInit ∈ wsX7_init := by decide +kernel
theorem wX7_init_3_1 : Cond.instanceMethod Lib.objectInit ∈ wsX7_init := by decide +kernel
theorem wX7_init_3_2 : Cond.code Lib.objectInit ⟨#[0xb1]⟩ 1 none ∈ wsX7_init := by decide +kernel
theorem wX7_init_arr0_0 : Cond.arrayClass .int ∈ wsX7_init := by decide +kernel
theorem kX7_init_9 : Cond.fieldLink RX7 9 (TX7 0).1 (TX7 0).2.1 (TX7 0).2.2.1 ∈ wsX7_init := by decide +kernel
theorem vX7_init_7 : ∀ w ∈ u_ws RX7 TX7 8, w ∈ wsX7_init := by decide +kernel
theorem kX7_init_15 : Cond.fieldLink RX7 15 (TX7 1).1 (TX7 1).2.1 (TX7 1).2.2.1 ∈ wsX7_init := by decide +kernel
theorem kX7_init_18 : Cond.fieldLink RX7 18 (TX7 2).1 (TX7 2).2.1 (TX7 2).2.2.1 ∈ wsX7_init := by decide +kernel
theorem kX7_init_21 : Cond.fieldLink RX7 21 (TX7 3).1 (TX7 3).2.1 (TX7 3).2.2.1 ∈ wsX7_init := by decide +kernel
theorem kX7_init_24 : Cond.fieldLink RX7 24 (TX7 4).1 (TX7 4).2.1 (TX7 4).2.2.1 ∈ wsX7_init := by decide +kernel
theorem kX7_init_27 : Cond.fieldLink RX7 27 (TX7 5).1 (TX7 5).2.1 (TX7 5).2.2.1 ∈ wsX7_init := by decide +kernel
theorem kX7_init_30 : Cond.fieldLink RX7 30 (TX7 6).1 (TX7 6).2.1 (TX7 6).2.2.1 ∈ wsX7_init := by decide +kernel
theorem kX7_init_33 : Cond.fieldLink RX7 33 (TX7 7).1 (TX7 7).2.1 (TX7 7).2.2.1 ∈ wsX7_init := by decide +kernel
def mX7_init (μ : rj_M) (b : Nat) : rj_M := (rj_z (rj_z (rj_z (rj_z (rj_z (rj_z (rj_z (rj_z μ (b + 8)) (b + 9)) (b + 10)) (b + 11)) (b + 12)) (b + 13)) (b + 14)) (b + 15))
set_option maxHeartbeats 40000000 in
set_option maxRecDepth 100000 in
theorem sX7_init {g : rj_G} {ω : rj_W} (μ : rj_M) (b : Nat) (sf : Nat → rj_Sh) (hn : ω.1 = b + 7 + 1) (hs : ω.2.1 = va_up sf (b + 7) (.inr (7, [some (some 0), some (some 0), some (some 0), some (some 0), some (some 0), some (some 0), some (some 0), some (some 0)]))) (hc : rj_cl ω μ) (hb : ∀ x, 7 ≤ x → x < 16 → sf (b + x) = rj_lm b x) : rj_Sp g yX7_init wsX7_init (rj_rm 4 38) [.ref (ω.2.2 (b + 7))] ω μ (rj_DI ω (b + 16) sf (mX7_init μ b)) := by
  refine ri_of (cc := cX7_init) (nL := 1) (ret := none) (own := RX7) (l0 := [(0, .ref (ω.2.2 (b + 7)))]) rfl (by decide +kernel) rfl rfl (Nat.le_of_ble_eq_true rfl) rfl ?_
  replace hn : ω.1 = b + 8 := by omega
  refine ri_aload_n 0 dX7_init_0 rfl rfl ?_
  refine ri_obj dX7_init_1 rfl wX7_init_3_0 wX7_init_3_1 wX7_init_3_2 (Nat.le_of_ble_eq_true rfl) (Nat.le_of_ble_eq_true rfl) (Nat.le_of_ble_eq_true rfl) ?_
  refine ri_aload_n 0 dX7_init_4 rfl rfl ?_
  refine ri_bipush (v := 16) dX7_init_5 rfl (by decide) ?_
  refine ri_newA (L := fun ad => [(0, .ref (ad (b + 7)))]) (ST := fun ad => [.ref (ad (b + 7))]) (kd := 0) (N := 16) (K := 2) dX7_init_7 rfl wX7_init_arr0_0 rfl (by decide) rfl (fun ad cA => by simp only [rj_av, rj_z, va_up_self]; rfl) (Nat.le_of_ble_eq_true rfl) (Nat.le_of_ble_eq_true rfl) (Nat.le_of_ble_eq_true rfl) (Nat.le_of_ble_eq_true rfl) (Nat.le_of_ble_eq_true rfl) hc (by rw [hn, hs, va_up_ne _ _ (by omega)]; exact (hb _ (by omega) (by omega)).trans (lm_8 b)) (fun ad h => by show _ = _; simp only [h (b + 7) (by omega)]) (fun ad h => by show _ = _; simp only [h (b + 7) (by omega)]) (fun ω1 hn1 hs1 ha1 hc1 => ?_)
  rw [hn] at hn1 hc1 ⊢
  replace hn1 : ω1.1 = b + 9 := by omega
  rw [hs] at hs1
  have hA1 : ∀ j, j < ω.1 → ω1.2.2 j = ω.2.2 j := fun j hj => ha1 j (by omega)
  clear ha1
  refine ri_putF (L := fun ad => [(0, .ref (ad (b + 7)))]) (ST := fun ad => []) (C0 := RX7) (T := TX7) (N := 8) (j := 0) (k := (b + 7)) (r := (b + 8)) (fs1 := [some (some ((b + 8) + 1)), some (some 0), some (some 0), some (some 0), some (some 0), some (some 0), some (some 0), some (some 0)]) dX7_init_9 rfl vX7_init_7 rfl (by omega) (by omega) hs1 (by decide) kX7_init_9 tyX7 tyX7_ok nmX7 rfl (fun _ h => h) rfl (Nat.le_of_ble_eq_true rfl) ⟨_, rfl⟩ (fun _ => rfl) (fun _ => rfl) hc1 rfl (fun ω2 hn2 hs2 ha2 hc2 => ?_)
  rw [hn1] at hn2
  have hA2 : ∀ j, j < ω.1 → ω2.2.2 j = ω.2.2 j := fun j hj => (congrFun ha2 j).trans (hA1 j hj)
  clear ha2 hA1 hs1 hn1 hc1
  refine ri_aload_n 0 dX7_init_12 rfl rfl ?_
  refine ri_bipush (v := 16) dX7_init_13 rfl (by decide) ?_
  refine ri_newA (L := fun ad => [(0, .ref (ad (b + 7)))]) (ST := fun ad => [.ref (ad (b + 7))]) (kd := 0) (N := 16) (K := 2) dX7_init_15 rfl wX7_init_arr0_0 rfl (by decide) rfl (fun ad cA => by simp only [rj_av, rj_z, va_up_self]; rfl) (Nat.le_of_ble_eq_true rfl) (Nat.le_of_ble_eq_true rfl) (Nat.le_of_ble_eq_true rfl) (Nat.le_of_ble_eq_true rfl) (Nat.le_of_ble_eq_true rfl) hc2 (by rw [hn2, hs2, va_up_ne _ _ (by omega)]; exact (hb _ (by omega) (by omega)).trans (lm_9 b)) (fun ad h => by show _ = _; simp only [h (b + 7) (by omega)]) (fun ad h => by show _ = _; simp only [h (b + 7) (by omega)]) (fun ω3 hn3 hs3 ha3 hc3 => ?_)
  rw [hn2] at hn3 hc3 ⊢
  replace hn3 : ω3.1 = b + 10 := by omega
  rw [hs2] at hs3
  have hA3 : ∀ j, j < ω.1 → ω3.2.2 j = ω.2.2 j := fun j hj => (ha3 j (by omega)).trans (hA2 j hj)
  clear ha3 hA2 hs2 hn2 hc2
  refine ri_putF (L := fun ad => [(0, .ref (ad (b + 7)))]) (ST := fun ad => []) (C0 := RX7) (T := TX7) (N := 8) (j := 1) (k := (b + 7)) (r := (b + 9)) (fs1 := [some (some ((b + 8) + 1)), some (some ((b + 9) + 1)), some (some 0), some (some 0), some (some 0), some (some 0), some (some 0), some (some 0)]) dX7_init_17 rfl vX7_init_7 rfl (by omega) (by omega) hs3 (by decide) kX7_init_15 tyX7 tyX7_ok nmX7 rfl (fun _ h => h) rfl (Nat.le_of_ble_eq_true rfl) ⟨_, rfl⟩ (fun _ => rfl) (fun _ => rfl) hc3 rfl (fun ω4 hn4 hs4 ha4 hc4 => ?_)
  rw [hn3] at hn4
  have hA4 : ∀ j, j < ω.1 → ω4.2.2 j = ω.2.2 j := fun j hj => (congrFun ha4 j).trans (hA3 j hj)
  clear ha4 hA3 hs3 hn3 hc3
  refine ri_aload_n 0 dX7_init_20 rfl rfl ?_
  refine ri_bipush (v := 16) dX7_init_21 rfl (by decide) ?_
  refine ri_newA (L := fun ad => [(0, .ref (ad (b + 7)))]) (ST := fun ad => [.ref (ad (b + 7))]) (kd := 0) (N := 16) (K := 2) dX7_init_23 rfl wX7_init_arr0_0 rfl (by decide) rfl (fun ad cA => by simp only [rj_av, rj_z, va_up_self]; rfl) (Nat.le_of_ble_eq_true rfl) (Nat.le_of_ble_eq_true rfl) (Nat.le_of_ble_eq_true rfl) (Nat.le_of_ble_eq_true rfl) (Nat.le_of_ble_eq_true rfl) hc4 (by rw [hn4, hs4, va_up_ne _ _ (by omega)]; exact (hb _ (by omega) (by omega)).trans (lm_10 b)) (fun ad h => by show _ = _; simp only [h (b + 7) (by omega)]) (fun ad h => by show _ = _; simp only [h (b + 7) (by omega)]) (fun ω5 hn5 hs5 ha5 hc5 => ?_)
  rw [hn4] at hn5 hc5 ⊢
  replace hn5 : ω5.1 = b + 11 := by omega
  rw [hs4] at hs5
  have hA5 : ∀ j, j < ω.1 → ω5.2.2 j = ω.2.2 j := fun j hj => (ha5 j (by omega)).trans (hA4 j hj)
  clear ha5 hA4 hs4 hn4 hc4
  refine ri_putF (L := fun ad => [(0, .ref (ad (b + 7)))]) (ST := fun ad => []) (C0 := RX7) (T := TX7) (N := 8) (j := 2) (k := (b + 7)) (r := (b + 10)) (fs1 := [some (some ((b + 8) + 1)), some (some ((b + 9) + 1)), some (some ((b + 10) + 1)), some (some 0), some (some 0), some (some 0), some (some 0), some (some 0)]) dX7_init_25 rfl vX7_init_7 rfl (by omega) (by omega) hs5 (by decide) kX7_init_18 tyX7 tyX7_ok nmX7 rfl (fun _ h => h) rfl (Nat.le_of_ble_eq_true rfl) ⟨_, rfl⟩ (fun _ => rfl) (fun _ => rfl) hc5 rfl (fun ω6 hn6 hs6 ha6 hc6 => ?_)
  rw [hn5] at hn6
  have hA6 : ∀ j, j < ω.1 → ω6.2.2 j = ω.2.2 j := fun j hj => (congrFun ha6 j).trans (hA5 j hj)
  clear ha6 hA5 hs5 hn5 hc5
  refine ri_aload_n 0 dX7_init_28 rfl rfl ?_
  refine ri_bipush (v := 16) dX7_init_29 rfl (by decide) ?_
  refine ri_newA (L := fun ad => [(0, .ref (ad (b + 7)))]) (ST := fun ad => [.ref (ad (b + 7))]) (kd := 0) (N := 16) (K := 2) dX7_init_31 rfl wX7_init_arr0_0 rfl (by decide) rfl (fun ad cA => by simp only [rj_av, rj_z, va_up_self]; rfl) (Nat.le_of_ble_eq_true rfl) (Nat.le_of_ble_eq_true rfl) (Nat.le_of_ble_eq_true rfl) (Nat.le_of_ble_eq_true rfl) (Nat.le_of_ble_eq_true rfl) hc6 (by rw [hn6, hs6, va_up_ne _ _ (by omega)]; exact (hb _ (by omega) (by omega)).trans (lm_11 b)) (fun ad h => by show _ = _; simp only [h (b + 7) (by omega)]) (fun ad h => by show _ = _; simp only [h (b + 7) (by omega)]) (fun ω7 hn7 hs7 ha7 hc7 => ?_)
  rw [hn6] at hn7 hc7 ⊢
  replace hn7 : ω7.1 = b + 12 := by omega
  rw [hs6] at hs7
  have hA7 : ∀ j, j < ω.1 → ω7.2.2 j = ω.2.2 j := fun j hj => (ha7 j (by omega)).trans (hA6 j hj)
  clear ha7 hA6 hs6 hn6 hc6
  refine ri_putF (L := fun ad => [(0, .ref (ad (b + 7)))]) (ST := fun ad => []) (C0 := RX7) (T := TX7) (N := 8) (j := 3) (k := (b + 7)) (r := (b + 11)) (fs1 := [some (some ((b + 8) + 1)), some (some ((b + 9) + 1)), some (some ((b + 10) + 1)), some (some ((b + 11) + 1)), some (some 0), some (some 0), some (some 0), some (some 0)]) dX7_init_33 rfl vX7_init_7 rfl (by omega) (by omega) hs7 (by decide) kX7_init_21 tyX7 tyX7_ok nmX7 rfl (fun _ h => h) rfl (Nat.le_of_ble_eq_true rfl) ⟨_, rfl⟩ (fun _ => rfl) (fun _ => rfl) hc7 rfl (fun ω8 hn8 hs8 ha8 hc8 => ?_)
  rw [hn7] at hn8
  have hA8 : ∀ j, j < ω.1 → ω8.2.2 j = ω.2.2 j := fun j hj => (congrFun ha8 j).trans (hA7 j hj)
  clear ha8 hA7 hs7 hn7 hc7
  refine ri_aload_n 0 dX7_init_36 rfl rfl ?_
  refine ri_bipush (v := 16) dX7_init_37 rfl (by decide) ?_
  refine ri_newA (L := fun ad => [(0, .ref (ad (b + 7)))]) (ST := fun ad => [.ref (ad (b + 7))]) (kd := 0) (N := 16) (K := 2) dX7_init_39 rfl wX7_init_arr0_0 rfl (by decide) rfl (fun ad cA => by simp only [rj_av, rj_z, va_up_self]; rfl) (Nat.le_of_ble_eq_true rfl) (Nat.le_of_ble_eq_true rfl) (Nat.le_of_ble_eq_true rfl) (Nat.le_of_ble_eq_true rfl) (Nat.le_of_ble_eq_true rfl) hc8 (by rw [hn8, hs8, va_up_ne _ _ (by omega)]; exact (hb _ (by omega) (by omega)).trans (lm_12 b)) (fun ad h => by show _ = _; simp only [h (b + 7) (by omega)]) (fun ad h => by show _ = _; simp only [h (b + 7) (by omega)]) (fun ω9 hn9 hs9 ha9 hc9 => ?_)
  rw [hn8] at hn9 hc9 ⊢
  replace hn9 : ω9.1 = b + 13 := by omega
  rw [hs8] at hs9
  have hA9 : ∀ j, j < ω.1 → ω9.2.2 j = ω.2.2 j := fun j hj => (ha9 j (by omega)).trans (hA8 j hj)
  clear ha9 hA8 hs8 hn8 hc8
  refine ri_putF (L := fun ad => [(0, .ref (ad (b + 7)))]) (ST := fun ad => []) (C0 := RX7) (T := TX7) (N := 8) (j := 4) (k := (b + 7)) (r := (b + 12)) (fs1 := [some (some ((b + 8) + 1)), some (some ((b + 9) + 1)), some (some ((b + 10) + 1)), some (some ((b + 11) + 1)), some (some ((b + 12) + 1)), some (some 0), some (some 0), some (some 0)]) dX7_init_41 rfl vX7_init_7 rfl (by omega) (by omega) hs9 (by decide) kX7_init_24 tyX7 tyX7_ok nmX7 rfl (fun _ h => h) rfl (Nat.le_of_ble_eq_true rfl) ⟨_, rfl⟩ (fun _ => rfl) (fun _ => rfl) hc9 rfl (fun ω10 hn10 hs10 ha10 hc10 => ?_)
  rw [hn9] at hn10
  have hA10 : ∀ j, j < ω.1 → ω10.2.2 j = ω.2.2 j := fun j hj => (congrFun ha10 j).trans (hA9 j hj)
  clear ha10 hA9 hs9 hn9 hc9
  refine ri_aload_n 0 dX7_init_44 rfl rfl ?_
  refine ri_sipush (v := 192) dX7_init_45 rfl (by decide) ?_
  refine ri_newA (L := fun ad => [(0, .ref (ad (b + 7)))]) (ST := fun ad => [.ref (ad (b + 7))]) (kd := 0) (N := 192) (K := 24) dX7_init_48 rfl wX7_init_arr0_0 rfl (by decide) rfl (fun ad cA => by simp only [rj_av, rj_z, va_up_self]; rfl) (Nat.le_of_ble_eq_true rfl) (Nat.le_of_ble_eq_true rfl) (Nat.le_of_ble_eq_true rfl) (Nat.le_of_ble_eq_true rfl) (Nat.le_of_ble_eq_true rfl) hc10 (by rw [hn10, hs10, va_up_ne _ _ (by omega)]; exact (hb _ (by omega) (by omega)).trans (lm_13 b)) (fun ad h => by show _ = _; simp only [h (b + 7) (by omega)]) (fun ad h => by show _ = _; simp only [h (b + 7) (by omega)]) (fun ω11 hn11 hs11 ha11 hc11 => ?_)
  rw [hn10] at hn11 hc11 ⊢
  replace hn11 : ω11.1 = b + 14 := by omega
  rw [hs10] at hs11
  have hA11 : ∀ j, j < ω.1 → ω11.2.2 j = ω.2.2 j := fun j hj => (ha11 j (by omega)).trans (hA10 j hj)
  clear ha11 hA10 hs10 hn10 hc10
  refine ri_putF (L := fun ad => [(0, .ref (ad (b + 7)))]) (ST := fun ad => []) (C0 := RX7) (T := TX7) (N := 8) (j := 5) (k := (b + 7)) (r := (b + 13)) (fs1 := [some (some ((b + 8) + 1)), some (some ((b + 9) + 1)), some (some ((b + 10) + 1)), some (some ((b + 11) + 1)), some (some ((b + 12) + 1)), some (some ((b + 13) + 1)), some (some 0), some (some 0)]) dX7_init_50 rfl vX7_init_7 rfl (by omega) (by omega) hs11 (by decide) kX7_init_27 tyX7 tyX7_ok nmX7 rfl (fun _ h => h) rfl (Nat.le_of_ble_eq_true rfl) ⟨_, rfl⟩ (fun _ => rfl) (fun _ => rfl) hc11 rfl (fun ω12 hn12 hs12 ha12 hc12 => ?_)
  rw [hn11] at hn12
  have hA12 : ∀ j, j < ω.1 → ω12.2.2 j = ω.2.2 j := fun j hj => (congrFun ha12 j).trans (hA11 j hj)
  clear ha12 hA11 hs11 hn11 hc11
  refine ri_aload_n 0 dX7_init_53 rfl rfl ?_
  refine ri_bipush (v := 16) dX7_init_54 rfl (by decide) ?_
  refine ri_newA (L := fun ad => [(0, .ref (ad (b + 7)))]) (ST := fun ad => [.ref (ad (b + 7))]) (kd := 0) (N := 16) (K := 2) dX7_init_56 rfl wX7_init_arr0_0 rfl (by decide) rfl (fun ad cA => by simp only [rj_av, rj_z, va_up_self]; rfl) (Nat.le_of_ble_eq_true rfl) (Nat.le_of_ble_eq_true rfl) (Nat.le_of_ble_eq_true rfl) (Nat.le_of_ble_eq_true rfl) (Nat.le_of_ble_eq_true rfl) hc12 (by rw [hn12, hs12, va_up_ne _ _ (by omega)]; exact (hb _ (by omega) (by omega)).trans (lm_14 b)) (fun ad h => by show _ = _; simp only [h (b + 7) (by omega)]) (fun ad h => by show _ = _; simp only [h (b + 7) (by omega)]) (fun ω13 hn13 hs13 ha13 hc13 => ?_)
  rw [hn12] at hn13 hc13 ⊢
  replace hn13 : ω13.1 = b + 15 := by omega
  rw [hs12] at hs13
  have hA13 : ∀ j, j < ω.1 → ω13.2.2 j = ω.2.2 j := fun j hj => (ha13 j (by omega)).trans (hA12 j hj)
  clear ha13 hA12 hs12 hn12 hc12
  refine ri_putF (L := fun ad => [(0, .ref (ad (b + 7)))]) (ST := fun ad => []) (C0 := RX7) (T := TX7) (N := 8) (j := 6) (k := (b + 7)) (r := (b + 14)) (fs1 := [some (some ((b + 8) + 1)), some (some ((b + 9) + 1)), some (some ((b + 10) + 1)), some (some ((b + 11) + 1)), some (some ((b + 12) + 1)), some (some ((b + 13) + 1)), some (some ((b + 14) + 1)), some (some 0)]) dX7_init_58 rfl vX7_init_7 rfl (by omega) (by omega) hs13 (by decide) kX7_init_30 tyX7 tyX7_ok nmX7 rfl (fun _ h => h) rfl (Nat.le_of_ble_eq_true rfl) ⟨_, rfl⟩ (fun _ => rfl) (fun _ => rfl) hc13 rfl (fun ω14 hn14 hs14 ha14 hc14 => ?_)
  rw [hn13] at hn14
  have hA14 : ∀ j, j < ω.1 → ω14.2.2 j = ω.2.2 j := fun j hj => (congrFun ha14 j).trans (hA13 j hj)
  clear ha14 hA13 hs13 hn13 hc13
  refine ri_aload_n 0 dX7_init_61 rfl rfl ?_
  refine ri_bipush (v := 16) dX7_init_62 rfl (by decide) ?_
  refine ri_newA (L := fun ad => [(0, .ref (ad (b + 7)))]) (ST := fun ad => [.ref (ad (b + 7))]) (kd := 0) (N := 16) (K := 2) dX7_init_64 rfl wX7_init_arr0_0 rfl (by decide) rfl (fun ad cA => by simp only [rj_av, rj_z, va_up_self]; rfl) (Nat.le_of_ble_eq_true rfl) (Nat.le_of_ble_eq_true rfl) (Nat.le_of_ble_eq_true rfl) (Nat.le_of_ble_eq_true rfl) (Nat.le_of_ble_eq_true rfl) hc14 (by rw [hn14, hs14, va_up_ne _ _ (by omega)]; exact (hb _ (by omega) (by omega)).trans (lm_15 b)) (fun ad h => by show _ = _; simp only [h (b + 7) (by omega)]) (fun ad h => by show _ = _; simp only [h (b + 7) (by omega)]) (fun ω15 hn15 hs15 ha15 hc15 => ?_)
  rw [hn14] at hn15 hc15 ⊢
  replace hn15 : ω15.1 = b + 16 := by omega
  rw [hs14] at hs15
  have hA15 : ∀ j, j < ω.1 → ω15.2.2 j = ω.2.2 j := fun j hj => (ha15 j (by omega)).trans (hA14 j hj)
  clear ha15 hA14 hs14 hn14 hc14
  refine ri_putF (L := fun ad => [(0, .ref (ad (b + 7)))]) (ST := fun ad => []) (C0 := RX7) (T := TX7) (N := 8) (j := 7) (k := (b + 7)) (r := (b + 15)) (fs1 := [some (some ((b + 8) + 1)), some (some ((b + 9) + 1)), some (some ((b + 10) + 1)), some (some ((b + 11) + 1)), some (some ((b + 12) + 1)), some (some ((b + 13) + 1)), some (some ((b + 14) + 1)), some (some ((b + 15) + 1))]) dX7_init_66 rfl vX7_init_7 rfl (by omega) (by omega) hs15 (by decide) kX7_init_33 tyX7 tyX7_ok nmX7 rfl (fun _ h => h) rfl (Nat.le_of_ble_eq_true rfl) ⟨_, rfl⟩ (fun _ => rfl) (fun _ => rfl) hc15 rfl (fun ω16 hn16 hs16 ha16 hc16 => ?_)
  rw [hn15] at hn16
  have hA16 : ∀ j, j < ω.1 → ω16.2.2 j = ω.2.2 j := fun j hj => (congrFun ha16 j).trans (hA15 j hj)
  clear ha16 hA15 hs15 hn15 hc15
  have hsF : ω16.2.1 = sf := hs16.trans (va_up_id ((hb 7 (by omega) (by omega)).trans (lm_7 b)))
  have hF := hA16
  exact rj_RI.of (rj_vret dX7_init_69 rfl (Nat.le_of_ble_eq_true rfl) (Nat.le_of_ble_eq_true rfl) ⟨rfl, hF, hn16, hsF, rfl, hc16⟩)
