theorem wX2_init_3_0 : Cond.methodLink RX2 3 Lib.objectInit ∈ wsX2_init := by decide +kernel
theorem wX2_init_3_1 : Cond.instanceMethod Lib.objectInit ∈ wsX2_init := by decide +kernel
theorem wX2_init_3_2 : Cond.code Lib.objectInit ⟨#[0xb1]⟩ 1 none ∈ wsX2_init := by decide +kernel
theorem wX2_init_arr0_0 : Cond.arrayClass .int ∈ wsX2_init := by decide +kernel
theorem kX2_init_9 : Cond.fieldLink RX2 9 (TX2 2).1 (TX2 2).2.1 (TX2 2).2.2.1 ∈ wsX2_init := by decide +kernel
theorem vX2_init_2 : ∀ w ∈ u_ws RX2 TX2 4, w ∈ wsX2_init := by decide +kernel
theorem kX2_init_15 : Cond.fieldLink RX2 15 (TX2 3).1 (TX2 3).2.1 (TX2 3).2.2.1 ∈ wsX2_init := by decide +kernel
theorem kX2_init_19 : Cond.fieldLink RX2 19 (TX2 0).1 (TX2 0).2.1 (TX2 0).2.2.1 ∈ wsX2_init := by decide +kernel
theorem kX2_init_23 : Cond.fieldLink RX2 23 (TX2 1).1 (TX2 1).2.1 (TX2 1).2.2.1 ∈ wsX2_init := by decide +kernel
def mX2_init (μ : rj_M) : rj_M := (rj_pi (rj_z μ 46) 45 3 0)
set_option maxHeartbeats 40000000 in
set_option maxRecDepth 100000 in
theorem sX2_init {g : rj_G} {ω : rj_W} (μ : rj_M) (sf : Nat → rj_Sh) (hn : ω.1 = 46) (hs : ω.2.1 = va_up sf 45 (.inr (2, [some (some 0), some (some 0), some (some 0), none]))) (hc : rj_cl ω μ) (hb : ∀ x, 45 ≤ x → x < 47 → sf x = rj_lay x) : rj_Sp g yX2_init wsX2_init (rj_rm 3 2) [.ref (ω.2.2 45), .ref (ω.2.2 3), .ref (ω.2.2 8)] ω μ (rj_DI ω (47) sf (mX2_init μ)) := by
  refine ri_of (cc := cX2_init) (nL := 3) (ret := none) (own := RX2) (l0 := [(0, .ref (ω.2.2 45)), (1, .ref (ω.2.2 3)), (2, .ref (ω.2.2 8))]) rfl (by decide +kernel) rfl rfl (Nat.le_of_ble_eq_true rfl) rfl ?_
  replace hn : ω.1 = 46 := by omega
  refine ri_aload_n 0 dX2_init_0 rfl rfl ?_
  refine ri_obj dX2_init_1 rfl wX2_init_3_0 wX2_init_3_1 wX2_init_3_2 (Nat.le_of_ble_eq_true rfl) (Nat.le_of_ble_eq_true rfl) (Nat.le_of_ble_eq_true rfl) ?_
  refine ri_aload_n 0 dX2_init_4 rfl rfl ?_
  refine ri_bipush (v := 16) dX2_init_5 rfl (by decide) ?_
  refine ri_newA (L := fun ad => [(0, .ref (ad 45)), (1, .ref (ad 3)), (2, .ref (ad 8))]) (ST := fun ad => [.ref (ad 45)]) (kd := 0) (N := 16) (K := 2) dX2_init_7 rfl wX2_init_arr0_0 rfl (by decide) rfl (fun ad cA => by simp only [rj_av, rj_z, va_up_self]; rfl) (Nat.le_of_ble_eq_true rfl) (Nat.le_of_ble_eq_true rfl) (Nat.le_of_ble_eq_true rfl) (Nat.le_of_ble_eq_true rfl) (Nat.le_of_ble_eq_true rfl) hc (by rw [hn, hs, va_up_ne _ _ (by omega)]; exact (hb _ (by omega) (by omega)).trans ly_46) (fun ad h => by show _ = _; simp only [h 45 (by omega), h 3 (by omega), h 8 (by omega)]) (fun ad h => by show _ = _; simp only [h 45 (by omega)]) (fun ω1 hn1 hs1 ha1 hc1 => ?_)
  rw [hn] at hn1 hc1 ⊢
  replace hn1 : ω1.1 = 47 := by omega
  rw [hs] at hs1
  refine ri_putF (L := fun ad => [(0, .ref (ad 45)), (1, .ref (ad 3)), (2, .ref (ad 8))]) (ST := fun ad => []) (C0 := RX2) (T := TX2) (N := 4) (j := 2) (k := 45) (r := 46) (fs1 := [some (some 0), some (some 0), some (some 47), none]) dX2_init_9 rfl vX2_init_2 rfl (by omega) (by omega) hs1 (by decide) kX2_init_9 tyX2 tyX2_ok nmX2 rfl (fun _ h => h) rfl (Nat.le_of_ble_eq_true rfl) ⟨_, rfl⟩ (fun _ => rfl) (fun _ => rfl) hc1 rfl (fun ω2 hn2 hs2 ha2 hc2 => ?_)
  rw [hn1] at hn2
  refine ri_aload_n 0 dX2_init_12 rfl rfl ?_
  refine ri_iconst (v := 0) dX2_init_13 rfl (by decide) ?_
  refine ri_putI (C0 := RX2) (T := TX2) (N := 4) (j := 3) dX2_init_14 rfl vX2_init_2 rfl (by omega) (by rw [hs2, va_up_self]) (by decide) kX2_init_15 tyX2 tyX2_ok nmX2 rfl rfl rfl rfl ?_
  have hd2 := hc2.same (μ' := (rj_pi (rj_z μ 46) 45 3 0)) rfl
  refine ri_aload_n 0 dX2_init_17 rfl rfl ?_
  refine ri_aload_n 1 dX2_init_18 rfl rfl ?_
  refine ri_putF (L := fun ad => [(0, .ref (ad 45)), (1, .ref (ad 3)), (2, .ref (ad 8))]) (ST := fun ad => []) (C0 := RX2) (T := TX2) (N := 4) (j := 0) (k := 45) (r := 3) (fs1 := [some (some 4), some (some 0), some (some 47), none]) dX2_init_19 rfl vX2_init_2 rfl (by omega) (by omega) hs2 (by decide) kX2_init_19 tyX2 tyX2_ok nmX2 rfl (fun _ h => h) rfl (Nat.le_of_ble_eq_true rfl) ⟨_, rfl⟩ (fun _ => rfl) (fun _ => rfl) hd2 rfl (fun ω3 hn3 hs3 ha3 hc3 => ?_)
  rw [hn2] at hn3
  refine ri_aload_n 0 dX2_init_22 rfl rfl ?_
  refine ri_aload_n 2 dX2_init_23 rfl rfl ?_
  refine ri_putF (L := fun ad => [(0, .ref (ad 45)), (1, .ref (ad 3)), (2, .ref (ad 8))]) (ST := fun ad => []) (C0 := RX2) (T := TX2) (N := 4) (j := 1) (k := 45) (r := 8) (fs1 := [some (some 4), some (some 9), some (some 47), none]) dX2_init_24 rfl vX2_init_2 rfl (by omega) (by omega) hs3 (by decide) kX2_init_23 tyX2 tyX2_ok nmX2 rfl (fun _ h => h) rfl (Nat.le_of_ble_eq_true rfl) ⟨_, rfl⟩ (fun _ => rfl) (fun _ => rfl) hc3 rfl (fun ω4 hn4 hs4 ha4 hc4 => ?_)
  rw [hn3] at hn4
  have hsF : ω4.2.1 = sf := hs4.trans (va_up_id ((hb 45 (by omega) (by omega)).trans ly_45))
  exact rj_RI.of (rj_vret dX2_init_27 rfl (Nat.le_of_ble_eq_true rfl) (Nat.le_of_ble_eq_true rfl) ⟨rfl, (fun j hj => (((fun j _ => congrFun ha4 j) j (by omega)).trans (((fun j _ => congrFun ha3 j) j (by omega)).trans (((fun j _ => congrFun ha2 j) j (by omega)).trans (ha1 j (by omega)))))), hn4, hsF, rfl, hc4⟩)
