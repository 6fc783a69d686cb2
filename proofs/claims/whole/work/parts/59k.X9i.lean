theorem wX9_init_3_0 : Cond.methodLink RX9 3 Lib.objectInit ∈ wsX9_init := by decide +kernel
theorem wX9_init_3_1 : Cond.instanceMethod Lib.objectInit ∈ wsX9_init := by decide +kernel
theorem wX9_init_3_2 : Cond.code Lib.objectInit ⟨#[0xb1]⟩ 1 none ∈ wsX9_init := by decide +kernel
theorem kX9_init_9 : Cond.fieldLink RX9 9 (TX9 2).1 (TX9 2).2.1 (TX9 2).2.2.1 ∈ wsX9_init := by decide +kernel
theorem vX9_init_9 : ∀ w ∈ u_ws RX9 TX9 8, w ∈ wsX9_init := by decide +kernel
theorem wX9_init_arr0_0 : Cond.arrayClass .int ∈ wsX9_init := by decide +kernel
theorem kX9_init_15 : Cond.fieldLink RX9 15 (TX9 3).1 (TX9 3).2.1 (TX9 3).2.2.1 ∈ wsX9_init := by decide +kernel
theorem kX9_init_19 : Cond.fieldLink RX9 19 (TX9 4).1 (TX9 4).2.1 (TX9 4).2.2.1 ∈ wsX9_init := by decide +kernel
theorem kX9_init_22 : Cond.fieldLink RX9 22 (TX9 5).1 (TX9 5).2.1 (TX9 5).2.2.1 ∈ wsX9_init := by decide +kernel
theorem kX9_init_26 : Cond.fieldLink RX9 26 (TX9 6).1 (TX9 6).2.1 (TX9 6).2.2.1 ∈ wsX9_init := by decide +kernel
theorem kX9_init_29 : Cond.fieldLink RX9 29 (TX9 7).1 (TX9 7).2.1 (TX9 7).2.2.1 ∈ wsX9_init := by decide +kernel
theorem kX9_init_32 : Cond.fieldLink RX9 32 (TX9 0).1 (TX9 0).2.1 (TX9 0).2.2.1 ∈ wsX9_init := by decide +kernel
theorem kX9_init_36 : Cond.fieldLink RX9 36 (TX9 1).1 (TX9 1).2.1 (TX9 1).2.2.1 ∈ wsX9_init := by decide +kernel
def mX9_init (μ : rj_M) : rj_M := (rj_pi (rj_z (rj_pi (rj_z (rj_z (rj_pi μ 47 2 0) 48) 49) 47 5 0) 50) 47 7 0)
set_option maxHeartbeats 40000000 in
set_option maxRecDepth 100000 in
theorem sX9_init {g : rj_G} {ω : rj_W} (μ : rj_M) (sf : Nat → rj_Sh) (hn : ω.1 = 48) (hs : ω.2.1 = va_up sf 47 (.inr (9, [some (some 0), some (some 0), none, some (some 0), some (some 0), none, some (some 0), none]))) (hc : rj_cl ω μ) (hb : ∀ x, 47 ≤ x → x < 51 → sf x = rj_lay x) : rj_Sp g yX9_init wsX9_init (rj_rm 3 4) [.ref (ω.2.2 47), .ref (ω.2.2 3), .ref (ω.2.2 8)] ω μ (rj_DI ω (51) sf (mX9_init μ)) := by
  refine ri_of (cc := cX9_init) (nL := 3) (ret := none) (own := RX9) (l0 := [(0, .ref (ω.2.2 47)), (1, .ref (ω.2.2 3)), (2, .ref (ω.2.2 8))]) rfl (by decide +kernel) rfl rfl (Nat.le_of_ble_eq_true rfl) rfl ?_
  replace hn : ω.1 = 48 := by omega
  refine ri_aload_n 0 dX9_init_0 rfl rfl ?_
  refine ri_obj dX9_init_1 rfl wX9_init_3_0 wX9_init_3_1 wX9_init_3_2 (Nat.le_of_ble_eq_true rfl) (Nat.le_of_ble_eq_true rfl) (Nat.le_of_ble_eq_true rfl) ?_
  refine ri_aload_n 0 dX9_init_4 rfl rfl ?_
  refine ri_iconst (v := 0) dX9_init_5 rfl (by decide) ?_
  refine ri_putI (C0 := RX9) (T := TX9) (N := 8) (j := 2) dX9_init_6 rfl vX9_init_9 rfl (by omega) (by rw [hs, va_up_self]) (by decide) kX9_init_9 tyX9 tyX9_ok nmX9 rfl rfl (by decide) rfl ?_
  have hd0 := hc.same (μ' := (rj_pi μ 47 2 0)) rfl
  refine ri_aload_n 0 dX9_init_9 rfl rfl ?_
  refine ri_bipush (v := 16) dX9_init_10 rfl (by decide) ?_
  refine ri_newA (L := fun ad => [(0, .ref (ad 47)), (1, .ref (ad 3)), (2, .ref (ad 8))]) (ST := fun ad => [.ref (ad 47)]) (kd := 0) (N := 16) (K := 2) dX9_init_12 rfl wX9_init_arr0_0 rfl (by decide) rfl (fun ad cA => by simp only [rj_av, rj_z, va_up_self]; rfl) (Nat.le_of_ble_eq_true rfl) (Nat.le_of_ble_eq_true rfl) (Nat.le_of_ble_eq_true rfl) (Nat.le_of_ble_eq_true rfl) (Nat.le_of_ble_eq_true rfl) hd0 (by rw [hn, hs, va_up_ne _ _ (by omega)]; exact (hb _ (by omega) (by omega)).trans ly_48) (fun ad h => by show _ = _; simp only [h 47 (by omega), h 3 (by omega), h 8 (by omega)]) (fun ad h => by show _ = _; simp only [h 47 (by omega)]) (fun ω1 hn1 hs1 ha1 hc1 => ?_)
  rw [hn] at hn1 hc1 ⊢
  replace hn1 : ω1.1 = 49 := by omega
  rw [hs] at hs1
  refine ri_putF (L := fun ad => [(0, .ref (ad 47)), (1, .ref (ad 3)), (2, .ref (ad 8))]) (ST := fun ad => []) (C0 := RX9) (T := TX9) (N := 8) (j := 3) (k := 47) (r := 48) (fs1 := [some (some 0), some (some 0), none, some (some 49), some (some 0), none, some (some 0), none]) dX9_init_14 rfl vX9_init_9 rfl (by omega) (by omega) hs1 (by decide) kX9_init_15 tyX9 tyX9_ok nmX9 rfl (fun _ h => h) rfl (Nat.le_of_ble_eq_true rfl) ⟨_, rfl⟩ (fun _ => rfl) (fun _ => rfl) hc1 rfl (fun ω2 hn2 hs2 ha2 hc2 => ?_)
  rw [hn1] at hn2
  refine ri_aload_n 0 dX9_init_17 rfl rfl ?_
  refine ri_bipush (v := 6) dX9_init_18 rfl (by decide) ?_
  refine ri_newA (L := fun ad => [(0, .ref (ad 47)), (1, .ref (ad 3)), (2, .ref (ad 8))]) (ST := fun ad => [.ref (ad 47)]) (kd := 0) (N := 6) (K := 1) dX9_init_20 rfl wX9_init_arr0_0 rfl (by decide) rfl (fun ad cA => by simp only [rj_av, rj_z, va_up_self]; rfl) (Nat.le_of_ble_eq_true rfl) (Nat.le_of_ble_eq_true rfl) (Nat.le_of_ble_eq_true rfl) (Nat.le_of_ble_eq_true rfl) (Nat.le_of_ble_eq_true rfl) hc2 (by rw [hn2, hs2, va_up_ne _ _ (by omega)]; exact (hb _ (by omega) (by omega)).trans ly_49) (fun ad h => by show _ = _; simp only [h 47 (by omega), h 3 (by omega), h 8 (by omega)]) (fun ad h => by show _ = _; simp only [h 47 (by omega)]) (fun ω3 hn3 hs3 ha3 hc3 => ?_)
  rw [hn2] at hn3 hc3 ⊢
  replace hn3 : ω3.1 = 50 := by omega
  rw [hs2] at hs3
  refine ri_putF (L := fun ad => [(0, .ref (ad 47)), (1, .ref (ad 3)), (2, .ref (ad 8))]) (ST := fun ad => []) (C0 := RX9) (T := TX9) (N := 8) (j := 4) (k := 47) (r := 49) (fs1 := [some (some 0), some (some 0), none, some (some 49), some (some 50), none, some (some 0), none]) dX9_init_22 rfl vX9_init_9 rfl (by omega) (by omega) hs3 (by decide) kX9_init_19 tyX9 tyX9_ok nmX9 rfl (fun _ h => h) rfl (Nat.le_of_ble_eq_true rfl) ⟨_, rfl⟩ (fun _ => rfl) (fun _ => rfl) hc3 rfl (fun ω4 hn4 hs4 ha4 hc4 => ?_)
  rw [hn3] at hn4
  refine ri_aload_n 0 dX9_init_25 rfl rfl ?_
  refine ri_iconst (v := 0) dX9_init_26 rfl (by decide) ?_
  refine ri_putI (C0 := RX9) (T := TX9) (N := 8) (j := 5) dX9_init_27 rfl vX9_init_9 rfl (by omega) (by rw [hs4, va_up_self]) (by decide) kX9_init_22 tyX9 tyX9_ok nmX9 rfl rfl rfl rfl ?_
  have hd4 := hc4.same (μ' := (rj_pi (rj_z (rj_z (rj_pi μ 47 2 0) 48) 49) 47 5 0)) rfl
  refine ri_aload_n 0 dX9_init_30 rfl rfl ?_
  refine ri_bipush (v := 6) dX9_init_31 rfl (by decide) ?_
  refine ri_newA (L := fun ad => [(0, .ref (ad 47)), (1, .ref (ad 3)), (2, .ref (ad 8))]) (ST := fun ad => [.ref (ad 47)]) (kd := 0) (N := 6) (K := 1) dX9_init_33 rfl wX9_init_arr0_0 rfl (by decide) rfl (fun ad cA => by simp only [rj_av, rj_z, va_up_self]; rfl) (Nat.le_of_ble_eq_true rfl) (Nat.le_of_ble_eq_true rfl) (Nat.le_of_ble_eq_true rfl) (Nat.le_of_ble_eq_true rfl) (Nat.le_of_ble_eq_true rfl) hd4 (by rw [hn4, hs4, va_up_ne _ _ (by omega)]; exact (hb _ (by omega) (by omega)).trans ly_50) (fun ad h => by show _ = _; simp only [h 47 (by omega), h 3 (by omega), h 8 (by omega)]) (fun ad h => by show _ = _; simp only [h 47 (by omega)]) (fun ω5 hn5 hs5 ha5 hc5 => ?_)
  rw [hn4] at hn5 hc5 ⊢
  replace hn5 : ω5.1 = 51 := by omega
  rw [hs4] at hs5
  refine ri_putF (L := fun ad => [(0, .ref (ad 47)), (1, .ref (ad 3)), (2, .ref (ad 8))]) (ST := fun ad => []) (C0 := RX9) (T := TX9) (N := 8) (j := 6) (k := 47) (r := 50) (fs1 := [some (some 0), some (some 0), none, some (some 49), some (some 50), none, some (some 51), none]) dX9_init_35 rfl vX9_init_9 rfl (by omega) (by omega) hs5 (by decide) kX9_init_26 tyX9 tyX9_ok nmX9 rfl (fun _ h => h) rfl (Nat.le_of_ble_eq_true rfl) ⟨_, rfl⟩ (fun _ => rfl) (fun _ => rfl) hc5 rfl (fun ω6 hn6 hs6 ha6 hc6 => ?_)
  rw [hn5] at hn6
  refine ri_aload_n 0 dX9_init_38 rfl rfl ?_
  refine ri_iconst (v := 0) dX9_init_39 rfl (by decide) ?_
  refine ri_putI (C0 := RX9) (T := TX9) (N := 8) (j := 7) dX9_init_40 rfl vX9_init_9 rfl (by omega) (by rw [hs6, va_up_self]) (by decide) kX9_init_29 tyX9 tyX9_ok nmX9 rfl rfl rfl rfl ?_
  have hd6 := hc6.same (μ' := (rj_pi (rj_z (rj_pi (rj_z (rj_z (rj_pi μ 47 2 0) 48) 49) 47 5 0) 50) 47 7 0)) rfl
  refine ri_aload_n 0 dX9_init_43 rfl rfl ?_
  refine ri_aload_n 1 dX9_init_44 rfl rfl ?_
  refine ri_putF (L := fun ad => [(0, .ref (ad 47)), (1, .ref (ad 3)), (2, .ref (ad 8))]) (ST := fun ad => []) (C0 := RX9) (T := TX9) (N := 8) (j := 0) (k := 47) (r := 3) (fs1 := [some (some 4), some (some 0), none, some (some 49), some (some 50), none, some (some 51), none]) dX9_init_45 rfl vX9_init_9 rfl (by omega) (by omega) hs6 (by decide) kX9_init_32 tyX9 tyX9_ok nmX9 rfl (fun _ h => h) rfl (Nat.le_of_ble_eq_true rfl) ⟨_, rfl⟩ (fun _ => rfl) (fun _ => rfl) hd6 rfl (fun ω7 hn7 hs7 ha7 hc7 => ?_)
  rw [hn6] at hn7
  refine ri_aload_n 0 dX9_init_48 rfl rfl ?_
  refine ri_aload_n 2 dX9_init_49 rfl rfl ?_
  refine ri_putF (L := fun ad => [(0, .ref (ad 47)), (1, .ref (ad 3)), (2, .ref (ad 8))]) (ST := fun ad => []) (C0 := RX9) (T := TX9) (N := 8) (j := 1) (k := 47) (r := 8) (fs1 := [some (some 4), some (some 9), none, some (some 49), some (some 50), none, some (some 51), none]) dX9_init_50 rfl vX9_init_9 rfl (by omega) (by omega) hs7 (by decide) kX9_init_36 tyX9 tyX9_ok nmX9 rfl (fun _ h => h) rfl (Nat.le_of_ble_eq_true rfl) ⟨_, rfl⟩ (fun _ => rfl) (fun _ => rfl) hc7 rfl (fun ω8 hn8 hs8 ha8 hc8 => ?_)
  rw [hn7] at hn8
  have hsF : ω8.2.1 = sf := hs8.trans (va_up_id ((hb 47 (by omega) (by omega)).trans ly_47))
  exact rj_RI.of (rj_vret dX9_init_53 rfl (Nat.le_of_ble_eq_true rfl) (Nat.le_of_ble_eq_true rfl) ⟨rfl, (fun j hj => (((fun j _ => congrFun ha8 j) j (by omega)).trans (((fun j _ => congrFun ha7 j) j (by omega)).trans (((fun j _ => congrFun ha6 j) j (by omega)).trans ((ha5 j (by omega)).trans (((fun j _ => congrFun ha4 j) j (by omega)).trans ((ha3 j (by omega)).trans (((fun j _ => congrFun ha2 j) j (by omega)).trans (ha1 j (by omega)))))))))), hn8, hsF, rfl, hc8⟩)
