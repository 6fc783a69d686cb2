theorem wX5_init_1_0 : Cond.methodLink RX5 1 Lib.objectInit ∈ wsX5_init := by decide +kernel
theorem wX5_init_1_1 : Cond.instanceMethod Lib.objectInit ∈ wsX5_init := by decide +kernel
theorem wX5_init_1_2 : Cond.code Lib.objectInit ⟨#[0xb1]⟩ 1 none ∈ wsX5_init := by decide +kernel
theorem vX5_init_1 : ∀ w ∈ u_ws RX1 TX1 3, w ∈ wsX5_init := by decide +kernel
theorem wX5_init_7_3 : Cond.classLink RX5 7 RX1 ∈ wsX5_init := by decide +kernel
theorem wX5_init_7_4 : Cond.instantiable RX1 3 ∈ wsX5_init := by decide +kernel
theorem wX5_init_7_5 : Cond.initialized RX1 ∈ wsX5_init := by decide +kernel
theorem wX5_init_9_0 : Cond.initialized yX1_init.cls ∈ wsX5_init := by decide +kernel
theorem wX5_init_9_n : (RX5, 9, yX1_init, "Festivalgrounds") ∈ rj_nw := by decide +kernel
theorem wX5_init_9_2 : Cond.instanceMethod yX1_init ∈ wsX5_init := by decide +kernel
theorem zX1_init : yX1_init.cls ≠ "java/lang/invoke/MethodHandle" ∧ yX1_init.cls ≠ "java/lang/invoke/VarHandle" ∧ (parseMethodDescriptor yX1_init.desc).map (fun d => d.parameters.length) = some 0 := by decide +kernel
theorem kX5_init_10 : Cond.fieldLink RX5 10 (TX5 0).1 (TX5 0).2.1 (TX5 0).2.2.1 ∈ wsX5_init := by decide +kernel
theorem vX5_init_5 : ∀ w ∈ u_ws RX5 TX5 8, w ∈ wsX5_init := by decide +kernel
theorem vX5_init_4 : ∀ w ∈ u_ws RX4 TX4 4, w ∈ wsX5_init := by decide +kernel
theorem wX5_init_16_3 : Cond.classLink RX5 16 RX4 ∈ wsX5_init := by decide +kernel
theorem wX5_init_16_4 : Cond.instantiable RX4 4 ∈ wsX5_init := by decide +kernel
theorem wX5_init_16_5 : Cond.initialized RX4 ∈ wsX5_init := by decide +kernel
theorem wX5_init_18_0 : Cond.initialized yX4_init.cls ∈ wsX5_init := by decide +kernel
theorem wX5_init_18_1 : Cond.methodLink RX5 18 yX4_init ∈ wsX5_init := by decide +kernel
theorem wX5_init_18_2 : Cond.instanceMethod yX4_init ∈ wsX5_init := by decide +kernel
theorem zX4_init : yX4_init.cls ≠ "java/lang/invoke/MethodHandle" ∧ yX4_init.cls ≠ "java/lang/invoke/VarHandle" ∧ (parseMethodDescriptor yX4_init.desc).map (fun d => d.parameters.length) = some 0 := by decide +kernel
theorem kX5_init_19 : Cond.fieldLink RX5 19 (TX5 1).1 (TX5 1).2.1 (TX5 1).2.2.1 ∈ wsX5_init := by decide +kernel
theorem vX5_init_7 : ∀ w ∈ u_ws RX7 TX7 8, w ∈ wsX5_init := by decide +kernel
theorem wX5_init_23_3 : Cond.classLink RX5 23 RX7 ∈ wsX5_init := by decide +kernel
theorem wX5_init_23_4 : Cond.instantiable RX7 8 ∈ wsX5_init := by decide +kernel
theorem wX5_init_23_5 : Cond.initialized RX7 ∈ wsX5_init := by decide +kernel
theorem wX5_init_25_0 : Cond.initialized yX7_init.cls ∈ wsX5_init := by decide +kernel
theorem wX5_init_25_n : (RX5, 25, yX7_init, "Festivalgrounds") ∈ rj_nw := by decide +kernel
theorem wX5_init_25_2 : Cond.instanceMethod yX7_init ∈ wsX5_init := by decide +kernel
theorem zX7_init : yX7_init.cls ≠ "java/lang/invoke/MethodHandle" ∧ yX7_init.cls ≠ "java/lang/invoke/VarHandle" ∧ (parseMethodDescriptor yX7_init.desc).map (fun d => d.parameters.length) = some 0 := by decide +kernel
theorem kX5_init_26 : Cond.fieldLink RX5 26 (TX5 2).1 (TX5 2).2.1 (TX5 2).2.2.1 ∈ wsX5_init := by decide +kernel
theorem vX5_init_3 : ∀ w ∈ u_ws RX3 TX3 3, w ∈ wsX5_init := by decide +kernel
theorem wX5_init_30_3 : Cond.classLink RX5 30 RX3 ∈ wsX5_init := by decide +kernel
theorem wX5_init_30_4 : Cond.instantiable RX3 3 ∈ wsX5_init := by decide +kernel
theorem wX5_init_30_5 : Cond.initialized RX3 ∈ wsX5_init := by decide +kernel
theorem wX5_init_32_0 : Cond.initialized yX3_init.cls ∈ wsX5_init := by decide +kernel
theorem wX5_init_32_1 : Cond.methodLink RX5 32 yX3_init ∈ wsX5_init := by decide +kernel
theorem wX5_init_32_2 : Cond.instanceMethod yX3_init ∈ wsX5_init := by decide +kernel
theorem zX3_init : yX3_init.cls ≠ "java/lang/invoke/MethodHandle" ∧ yX3_init.cls ≠ "java/lang/invoke/VarHandle" ∧ (parseMethodDescriptor yX3_init.desc).map (fun d => d.parameters.length) = some 0 := by decide +kernel
theorem kX5_init_33 : Cond.fieldLink RX5 33 (TX5 3).1 (TX5 3).2.1 (TX5 3).2.2.1 ∈ wsX5_init := by decide +kernel
theorem vX5_init_0 : ∀ w ∈ u_ws RX0 TX0 7, w ∈ wsX5_init := by decide +kernel
theorem wX5_init_37_3 : Cond.classLink RX5 37 RX0 ∈ wsX5_init := by decide +kernel
theorem wX5_init_37_4 : Cond.instantiable RX0 7 ∈ wsX5_init := by decide +kernel
theorem wX5_init_37_5 : Cond.initialized RX0 ∈ wsX5_init := by decide +kernel
theorem wX5_init_39_0 : Cond.initialized yX0_init.cls ∈ wsX5_init := by decide +kernel
theorem wX5_init_39_1 : Cond.methodLink RX5 39 yX0_init ∈ wsX5_init := by decide +kernel
theorem wX5_init_39_2 : Cond.instanceMethod yX0_init ∈ wsX5_init := by decide +kernel
theorem zX0_init : yX0_init.cls ≠ "java/lang/invoke/MethodHandle" ∧ yX0_init.cls ≠ "java/lang/invoke/VarHandle" ∧ (parseMethodDescriptor yX0_init.desc).map (fun d => d.parameters.length) = some 0 := by decide +kernel
theorem kX5_init_40 : Cond.fieldLink RX5 40 (TX5 4).1 (TX5 4).2.1 (TX5 4).2.2.1 ∈ wsX5_init := by decide +kernel
theorem vX5_init_10 : ∀ w ∈ u_ws RX10 TX10 4, w ∈ wsX5_init := by decide +kernel
theorem wX5_init_44_3 : Cond.classLink RX5 44 RX10 ∈ wsX5_init := by decide +kernel
theorem wX5_init_44_4 : Cond.instantiable RX10 4 ∈ wsX5_init := by decide +kernel
theorem wX5_init_44_5 : Cond.initialized RX10 ∈ wsX5_init := by decide +kernel
theorem wX5_init_46_0 : Cond.initialized yX10_init.cls ∈ wsX5_init := by decide +kernel
theorem wX5_init_46_n : (RX5, 46, yX10_init, "Festivalgrounds") ∈ rj_nw := by decide +kernel
theorem wX5_init_46_2 : Cond.instanceMethod yX10_init ∈ wsX5_init := by decide +kernel
theorem zX10_init : yX10_init.cls ≠ "java/lang/invoke/MethodHandle" ∧ yX10_init.cls ≠ "java/lang/invoke/VarHandle" ∧ (parseMethodDescriptor yX10_init.desc).map (fun d => d.parameters.length) = some 0 := by decide +kernel
theorem kX5_init_47 : Cond.fieldLink RX5 47 (TX5 5).1 (TX5 5).2.1 (TX5 5).2.2.1 ∈ wsX5_init := by decide +kernel
theorem vX5_init_6 : ∀ w ∈ u_ws RX6 TX6 8, w ∈ wsX5_init := by decide +kernel
theorem wX5_init_51_3 : Cond.classLink RX5 51 RX6 ∈ wsX5_init := by decide +kernel
theorem wX5_init_51_4 : Cond.instantiable RX6 8 ∈ wsX5_init := by decide +kernel
theorem wX5_init_51_5 : Cond.initialized RX6 ∈ wsX5_init := by decide +kernel
theorem wX5_init_53_0 : Cond.initialized yX6_init.cls ∈ wsX5_init := by decide +kernel
theorem wX5_init_53_n : (RX5, 53, yX6_init, "Festivalgrounds") ∈ rj_nw := by decide +kernel
theorem wX5_init_53_2 : Cond.instanceMethod yX6_init ∈ wsX5_init := by decide +kernel
theorem zX6_init : yX6_init.cls ≠ "java/lang/invoke/MethodHandle" ∧ yX6_init.cls ≠ "java/lang/invoke/VarHandle" ∧ (parseMethodDescriptor yX6_init.desc).map (fun d => d.parameters.length) = some 0 := by decide +kernel
theorem kX5_init_54 : Cond.fieldLink RX5 54 (TX5 6).1 (TX5 6).2.1 (TX5 6).2.2.1 ∈ wsX5_init := by decide +kernel
theorem vX5_init_8 : ∀ w ∈ u_ws RX8 TX8 5, w ∈ wsX5_init := by decide +kernel
theorem wX5_init_58_3 : Cond.classLink RX5 58 RX8 ∈ wsX5_init := by decide +kernel
theorem wX5_init_58_4 : Cond.instantiable RX8 5 ∈ wsX5_init := by decide +kernel
theorem wX5_init_58_5 : Cond.initialized RX8 ∈ wsX5_init := by decide +kernel
theorem wX5_init_60_0 : Cond.initialized yX8_init.cls ∈ wsX5_init := by decide +kernel
theorem wX5_init_60_1 : Cond.methodLink RX5 60 yX8_init ∈ wsX5_init := by decide +kernel
theorem wX5_init_60_2 : Cond.instanceMethod yX8_init ∈ wsX5_init := by decide +kernel
theorem zX8_init : yX8_init.cls ≠ "java/lang/invoke/MethodHandle" ∧ yX8_init.cls ≠ "java/lang/invoke/VarHandle" ∧ (parseMethodDescriptor yX8_init.desc).map (fun d => d.parameters.length) = some 0 := by decide +kernel
theorem kX5_init_61 : Cond.fieldLink RX5 61 (TX5 7).1 (TX5 7).2.1 (TX5 7).2.2.1 ∈ wsX5_init := by decide +kernel
def mX5_init (μ : rj_M) (b : Nat) : rj_M := (mX8_init (rj_z (mX6_init (rj_z (mX10_init (rj_z (mX0_init (rj_z (mX3_init (rj_z (mX7_init (rj_z (mX4_init (rj_z (mX1_init (rj_z μ (b + 1)) b) (b + 2)) b) (b + 7)) b) (b + 16)) b) (b + 20)) b) (b + 25)) b) (b + 29)) b) (b + 38)) b)
set_option maxHeartbeats 40000000 in
set_option maxRecDepth 100000 in
theorem sX5_init {g : rj_G} {ω : rj_W} (μ : rj_M) (b : Nat) (sf : Nat → rj_Sh) (hn : ω.1 = b + 0 + 1) (hs : ω.2.1 = va_up sf (b + 0) (.inr (5, [some (some 0), some (some 0), some (some 0), some (some 0), some (some 0), some (some 0), some (some 0), some (some 0)]))) (hc : rj_cl ω μ) (hb : ∀ x, 0 ≤ x → x < 43 → sf (b + x) = rj_lm b x) : rj_Sp g yX5_init wsX5_init (rj_rm 5 158) [.ref (ω.2.2 (b + 0))] ω μ (rj_DI ω (b + 43) sf (mX5_init μ b)) := by
  refine ri_of (cc := cX5_init) (nL := 1) (ret := none) (own := RX5) (l0 := [(0, .ref (ω.2.2 (b + 0)))]) rfl (by decide +kernel) rfl rfl (Nat.le_of_ble_eq_true rfl) rfl ?_
  replace hn : ω.1 = b + 1 := by omega
  refine ri_aload_n 0 dX5_init_0 rfl rfl ?_
  refine ri_obj dX5_init_1 rfl wX5_init_1_0 wX5_init_1_1 wX5_init_1_2 (Nat.le_of_ble_eq_true rfl) (Nat.le_of_ble_eq_true rfl) (Nat.le_of_ble_eq_true rfl) ?_
  refine ri_aload_n 0 dX5_init_4 rfl rfl ?_
  refine ri_newO (L := fun ad => [(0, .ref (ad (b + 0)))]) (ST := fun ad => [.ref (ad (b + 0))]) (nl := [none, none, none]) (ci := 1) (K := 1) dX5_init_5 rfl vX5_init_1 rfl tyX1 tyX1_ok wX5_init_7_3 wX5_init_7_4 wX5_init_7_5 (by simp) (by decide +kernel) (Nat.le_of_ble_eq_true rfl) (Nat.le_of_ble_eq_true rfl) (Nat.le_of_ble_eq_true rfl) (Nat.le_of_ble_eq_true rfl) hc (fun ad h => by show _ = _; simp only [h (b + 0) (by omega)]) (fun ad h => by show _ = _; simp only [h (b + 0) (by omega)]) (fun ω1 hn1 hs1 ha1 hc1 => ?_)
  rw [hn] at hn1 hs1 hc1 ⊢
  replace hn1 : ω1.1 = b + 2 := by omega
  rw [hs] at hs1
  have hA1 : ∀ j, j < ω.1 → ω1.2.2 j = ω.2.2 j := fun j hj => ha1 j (by omega)
  clear ha1
  refine ri_dup dX5_init_8 rfl rfl ?_
  refine ri_callIN (L := fun ad => [(0, .ref (ad (b + 0)))]) (ST := fun ad => [.ref (ad (b + 1)), .ref (ad (b + 0))]) (av := []) rfl (sX1_init (g := g) (ω := ω1) (rj_z μ (b + 1)) b (va_up sf (b + 0) (.inr (5, [some (some 0), some (some 0), some (some 0), some (some 0), some (some 0), some (some 0), some (some 0), some (some 0)]))) (by omega) hs1 hc1 (fun x h1 h2 => by rw [va_up_ne _ _ (by omega)]; exact hb x (by omega) (by omega))) ggX5_init_X1_init rfl wX5_init_9_0 wX5_init_9_n wX5_init_9_2 rfl zX1_init ⟨(Nat.le_of_ble_eq_true rfl), (Nat.le_of_ble_eq_true rfl)⟩ dX5_init_9 rfl rfl (Nat.le_of_ble_eq_true rfl) (Nat.le_of_ble_eq_true rfl) (fun ad h => by show _ = _; simp only [h (b + 0) (by omega)]) (fun ad h => by show _ = _; simp only [h (b + 1) (by omega), h (b + 0) (by omega)]) rj_DI.p ?_
  rintro ω2 μ2 ⟨-, ha2, hn2, hs2, rfl, hc2⟩
  replace hn2 : ω2.1 = b + 2 := by omega
  have hA2 : ∀ j, j < ω.1 → ω2.2.2 j = ω.2.2 j := fun j hj => (ha2 j (by omega)).trans (hA1 j hj)
  clear ha2 hA1 hs1 hn1 hc1
  refine ri_putF (L := fun ad => [(0, .ref (ad (b + 0)))]) (ST := fun ad => []) (C0 := RX5) (T := TX5) (N := 8) (j := 0) (k := (b + 0)) (r := (b + 1)) (fs1 := [some (some ((b + 1) + 1)), some (some 0), some (some 0), some (some 0), some (some 0), some (some 0), some (some 0), some (some 0)]) dX5_init_12 rfl vX5_init_5 rfl (by omega) (by omega) hs2 (by decide) kX5_init_10 tyX5 tyX5_ok nmX5 rfl (fun _ h => h) rfl (Nat.le_of_ble_eq_true rfl) ⟨_, rfl⟩ (fun _ => rfl) (fun _ => rfl) hc2 rfl (fun ω3 hn3 hs3 ha3 hc3 => ?_)
  rw [hn2] at hn3
  have hA3 : ∀ j, j < ω.1 → ω3.2.2 j = ω.2.2 j := fun j hj => (congrFun ha3 j).trans (hA2 j hj)
  clear ha3 hA2 hs2 hn2 hc2
  refine ri_aload_n 0 dX5_init_15 rfl rfl ?_
  refine ri_newO (L := fun ad => [(0, .ref (ad (b + 0)))]) (ST := fun ad => [.ref (ad (b + 0))]) (nl := [some (some 0), some (some 0), some (some 0), some (some 0)]) (ci := 4) (K := 1) dX5_init_16 rfl vX5_init_4 rfl tyX4 tyX4_ok wX5_init_16_3 wX5_init_16_4 wX5_init_16_5 (by simp) (by decide +kernel) (Nat.le_of_ble_eq_true rfl) (Nat.le_of_ble_eq_true rfl) (Nat.le_of_ble_eq_true rfl) (Nat.le_of_ble_eq_true rfl) hc3 (fun ad h => by show _ = _; simp only [h (b + 0) (by omega)]) (fun ad h => by show _ = _; simp only [h (b + 0) (by omega)]) (fun ω4 hn4 hs4 ha4 hc4 => ?_)
  rw [hn3] at hn4 hs4 hc4 ⊢
  replace hn4 : ω4.1 = b + 3 := by omega
  rw [hs3] at hs4
  have hA4 : ∀ j, j < ω.1 → ω4.2.2 j = ω.2.2 j := fun j hj => (ha4 j (by omega)).trans (hA3 j hj)
  clear ha4 hA3 hs3 hn3 hc3
  refine ri_dup dX5_init_19 rfl rfl ?_
  refine ri_callI (L := fun ad => [(0, .ref (ad (b + 0)))]) (ST := fun ad => [.ref (ad (b + 2)), .ref (ad (b + 0))]) (av := []) rfl (sX4_init (g := g) (ω := ω4) (rj_z (mX1_init (rj_z μ (b + 1)) b) (b + 2)) b (va_up sf (b + 0) (.inr (5, [some (some ((b + 1) + 1)), some (some 0), some (some 0), some (some 0), some (some 0), some (some 0), some (some 0), some (some 0)]))) (by omega) hs4 hc4 (fun x h1 h2 => by rw [va_up_ne _ _ (by omega)]; exact hb x (by omega) (by omega))) ggX5_init_X4_init rfl wX5_init_18_0 wX5_init_18_1 wX5_init_18_2 rfl zX4_init ⟨(Nat.le_of_ble_eq_true rfl), (Nat.le_of_ble_eq_true rfl)⟩ dX5_init_20 rfl rfl (Nat.le_of_ble_eq_true rfl) (Nat.le_of_ble_eq_true rfl) (fun ad h => by show _ = _; simp only [h (b + 0) (by omega)]) (fun ad h => by show _ = _; simp only [h (b + 2) (by omega), h (b + 0) (by omega)]) rj_DI.p ?_
  rintro ω5 μ5 ⟨-, ha5, hn5, hs5, rfl, hc5⟩
  replace hn5 : ω5.1 = b + 7 := by omega
  have hA5 : ∀ j, j < ω.1 → ω5.2.2 j = ω.2.2 j := fun j hj => (ha5 j (by omega)).trans (hA4 j hj)
  clear ha5 hA4 hs4 hn4 hc4
  refine ri_putF (L := fun ad => [(0, .ref (ad (b + 0)))]) (ST := fun ad => []) (C0 := RX5) (T := TX5) (N := 8) (j := 1) (k := (b + 0)) (r := (b + 2)) (fs1 := [some (some ((b + 1) + 1)), some (some ((b + 2) + 1)), some (some 0), some (some 0), some (some 0), some (some 0), some (some 0), some (some 0)]) dX5_init_23 rfl vX5_init_5 rfl (by omega) (by omega) hs5 (by decide) kX5_init_19 tyX5 tyX5_ok nmX5 rfl (fun _ h => h) rfl (Nat.le_of_ble_eq_true rfl) ⟨_, rfl⟩ (fun _ => rfl) (fun _ => rfl) hc5 rfl (fun ω6 hn6 hs6 ha6 hc6 => ?_)
  rw [hn5] at hn6
  have hA6 : ∀ j, j < ω.1 → ω6.2.2 j = ω.2.2 j := fun j hj => (congrFun ha6 j).trans (hA5 j hj)
  clear ha6 hA5 hs5 hn5 hc5
  refine ri_aload_n 0 dX5_init_26 rfl rfl ?_
  refine ri_newO (L := fun ad => [(0, .ref (ad (b + 0)))]) (ST := fun ad => [.ref (ad (b + 0))]) (nl := [some (some 0), some (some 0), some (some 0), some (some 0), some (some 0), some (some 0), some (some 0), some (some 0)]) (ci := 7) (K := 1) dX5_init_27 rfl vX5_init_7 rfl tyX7 tyX7_ok wX5_init_23_3 wX5_init_23_4 wX5_init_23_5 (by simp) (by decide +kernel) (Nat.le_of_ble_eq_true rfl) (Nat.le_of_ble_eq_true rfl) (Nat.le_of_ble_eq_true rfl) (Nat.le_of_ble_eq_true rfl) hc6 (fun ad h => by show _ = _; simp only [h (b + 0) (by omega)]) (fun ad h => by show _ = _; simp only [h (b + 0) (by omega)]) (fun ω7 hn7 hs7 ha7 hc7 => ?_)
  rw [hn6] at hn7 hs7 hc7 ⊢
  replace hn7 : ω7.1 = b + 8 := by omega
  rw [hs6] at hs7
  have hA7 : ∀ j, j < ω.1 → ω7.2.2 j = ω.2.2 j := fun j hj => (ha7 j (by omega)).trans (hA6 j hj)
  clear ha7 hA6 hs6 hn6 hc6
  refine ri_dup dX5_init_30 rfl rfl ?_
  refine ri_callIN (L := fun ad => [(0, .ref (ad (b + 0)))]) (ST := fun ad => [.ref (ad (b + 7)), .ref (ad (b + 0))]) (av := []) rfl (sX7_init (g := g) (ω := ω7) (rj_z (mX4_init (rj_z (mX1_init (rj_z μ (b + 1)) b) (b + 2)) b) (b + 7)) b (va_up sf (b + 0) (.inr (5, [some (some ((b + 1) + 1)), some (some ((b + 2) + 1)), some (some 0), some (some 0), some (some 0), some (some 0), some (some 0), some (some 0)]))) (by omega) hs7 hc7 (fun x h1 h2 => by rw [va_up_ne _ _ (by omega)]; exact hb x (by omega) (by omega))) ggX5_init_X7_init rfl wX5_init_25_0 wX5_init_25_n wX5_init_25_2 rfl zX7_init ⟨(Nat.le_of_ble_eq_true rfl), (Nat.le_of_ble_eq_true rfl)⟩ dX5_init_31 rfl rfl (Nat.le_of_ble_eq_true rfl) (Nat.le_of_ble_eq_true rfl) (fun ad h => by show _ = _; simp only [h (b + 0) (by omega)]) (fun ad h => by show _ = _; simp only [h (b + 7) (by omega), h (b + 0) (by omega)]) rj_DI.p ?_
  rintro ω8 μ8 ⟨-, ha8, hn8, hs8, rfl, hc8⟩
  replace hn8 : ω8.1 = b + 16 := by omega
  have hA8 : ∀ j, j < ω.1 → ω8.2.2 j = ω.2.2 j := fun j hj => (ha8 j (by omega)).trans (hA7 j hj)
  clear ha8 hA7 hs7 hn7 hc7
  refine ri_putF (L := fun ad => [(0, .ref (ad (b + 0)))]) (ST := fun ad => []) (C0 := RX5) (T := TX5) (N := 8) (j := 2) (k := (b + 0)) (r := (b + 7)) (fs1 := [some (some ((b + 1) + 1)), some (some ((b + 2) + 1)), some (some ((b + 7) + 1)), some (some 0), some (some 0), some (some 0), some (some 0), some (some 0)]) dX5_init_34 rfl vX5_init_5 rfl (by omega) (by omega) hs8 (by decide) kX5_init_26 tyX5 tyX5_ok nmX5 rfl (fun _ h => h) rfl (Nat.le_of_ble_eq_true rfl) ⟨_, rfl⟩ (fun _ => rfl) (fun _ => rfl) hc8 rfl (fun ω9 hn9 hs9 ha9 hc9 => ?_)
  rw [hn8] at hn9
  have hA9 : ∀ j, j < ω.1 → ω9.2.2 j = ω.2.2 j := fun j hj => (congrFun ha9 j).trans (hA8 j hj)
  clear ha9 hA8 hs8 hn8 hc8
  refine ri_aload_n 0 dX5_init_37 rfl rfl ?_
  refine ri_newO (L := fun ad => [(0, .ref (ad (b + 0)))]) (ST := fun ad => [.ref (ad (b + 0))]) (nl := [some (some 0), some (some 0), some (some 0)]) (ci := 3) (K := 1) dX5_init_38 rfl vX5_init_3 rfl tyX3 tyX3_ok wX5_init_30_3 wX5_init_30_4 wX5_init_30_5 (by simp) (by decide +kernel) (Nat.le_of_ble_eq_true rfl) (Nat.le_of_ble_eq_true rfl) (Nat.le_of_ble_eq_true rfl) (Nat.le_of_ble_eq_true rfl) hc9 (fun ad h => by show _ = _; simp only [h (b + 0) (by omega)]) (fun ad h => by show _ = _; simp only [h (b + 0) (by omega)]) (fun ω10 hn10 hs10 ha10 hc10 => ?_)
  rw [hn9] at hn10 hs10 hc10 ⊢
  replace hn10 : ω10.1 = b + 17 := by omega
  rw [hs9] at hs10
  have hA10 : ∀ j, j < ω.1 → ω10.2.2 j = ω.2.2 j := fun j hj => (ha10 j (by omega)).trans (hA9 j hj)
  clear ha10 hA9 hs9 hn9 hc9
  refine ri_dup dX5_init_41 rfl rfl ?_
  refine ri_callI (L := fun ad => [(0, .ref (ad (b + 0)))]) (ST := fun ad => [.ref (ad (b + 16)), .ref (ad (b + 0))]) (av := []) rfl (sX3_init (g := g) (ω := ω10) (rj_z (mX7_init (rj_z (mX4_init (rj_z (mX1_init (rj_z μ (b + 1)) b) (b + 2)) b) (b + 7)) b) (b + 16)) b (va_up sf (b + 0) (.inr (5, [some (some ((b + 1) + 1)), some (some ((b + 2) + 1)), some (some ((b + 7) + 1)), some (some 0), some (some 0), some (some 0), some (some 0), some (some 0)]))) (by omega) hs10 hc10 (fun x h1 h2 => by rw [va_up_ne _ _ (by omega)]; exact hb x (by omega) (by omega))) ggX5_init_X3_init rfl wX5_init_32_0 wX5_init_32_1 wX5_init_32_2 rfl zX3_init ⟨(Nat.le_of_ble_eq_true rfl), (Nat.le_of_ble_eq_true rfl)⟩ dX5_init_42 rfl rfl (Nat.le_of_ble_eq_true rfl) (Nat.le_of_ble_eq_true rfl) (fun ad h => by show _ = _; simp only [h (b + 0) (by omega)]) (fun ad h => by show _ = _; simp only [h (b + 16) (by omega), h (b + 0) (by omega)]) rj_DI.p ?_
  rintro ω11 μ11 ⟨-, ha11, hn11, hs11, rfl, hc11⟩
  replace hn11 : ω11.1 = b + 20 := by omega
  have hA11 : ∀ j, j < ω.1 → ω11.2.2 j = ω.2.2 j := fun j hj => (ha11 j (by omega)).trans (hA10 j hj)
  clear ha11 hA10 hs10 hn10 hc10
  refine ri_putF (L := fun ad => [(0, .ref (ad (b + 0)))]) (ST := fun ad => []) (C0 := RX5) (T := TX5) (N := 8) (j := 3) (k := (b + 0)) (r := (b + 16)) (fs1 := [some (some ((b + 1) + 1)), some (some ((b + 2) + 1)), some (some ((b + 7) + 1)), some (some ((b + 16) + 1)), some (some 0), some (some 0), some (some 0), some (some 0)]) dX5_init_45 rfl vX5_init_5 rfl (by omega) (by omega) hs11 (by decide) kX5_init_33 tyX5 tyX5_ok nmX5 rfl (fun _ h => h) rfl (Nat.le_of_ble_eq_true rfl) ⟨_, rfl⟩ (fun _ => rfl) (fun _ => rfl) hc11 rfl (fun ω12 hn12 hs12 ha12 hc12 => ?_)
  rw [hn11] at hn12
  have hA12 : ∀ j, j < ω.1 → ω12.2.2 j = ω.2.2 j := fun j hj => (congrFun ha12 j).trans (hA11 j hj)
  clear ha12 hA11 hs11 hn11 hc11
  refine ri_aload_n 0 dX5_init_48 rfl rfl ?_
  refine ri_newO (L := fun ad => [(0, .ref (ad (b + 0)))]) (ST := fun ad => [.ref (ad (b + 0))]) (nl := [some (some 0), none, some (some 0), some (some 0), some (some 0), none, none]) (ci := 0) (K := 1) dX5_init_49 rfl vX5_init_0 rfl tyX0 tyX0_ok wX5_init_37_3 wX5_init_37_4 wX5_init_37_5 (by simp) (by decide +kernel) (Nat.le_of_ble_eq_true rfl) (Nat.le_of_ble_eq_true rfl) (Nat.le_of_ble_eq_true rfl) (Nat.le_of_ble_eq_true rfl) hc12 (fun ad h => by show _ = _; simp only [h (b + 0) (by omega)]) (fun ad h => by show _ = _; simp only [h (b + 0) (by omega)]) (fun ω13 hn13 hs13 ha13 hc13 => ?_)
  rw [hn12] at hn13 hs13 hc13 ⊢
  replace hn13 : ω13.1 = b + 21 := by omega
  rw [hs12] at hs13
  have hA13 : ∀ j, j < ω.1 → ω13.2.2 j = ω.2.2 j := fun j hj => (ha13 j (by omega)).trans (hA12 j hj)
  clear ha13 hA12 hs12 hn12 hc12
  refine ri_dup dX5_init_52 rfl rfl ?_
  refine ri_callI (L := fun ad => [(0, .ref (ad (b + 0)))]) (ST := fun ad => [.ref (ad (b + 20)), .ref (ad (b + 0))]) (av := []) rfl (sX0_init (g := g) (ω := ω13) (rj_z (mX3_init (rj_z (mX7_init (rj_z (mX4_init (rj_z (mX1_init (rj_z μ (b + 1)) b) (b + 2)) b) (b + 7)) b) (b + 16)) b) (b + 20)) b (va_up sf (b + 0) (.inr (5, [some (some ((b + 1) + 1)), some (some ((b + 2) + 1)), some (some ((b + 7) + 1)), some (some ((b + 16) + 1)), some (some 0), some (some 0), some (some 0), some (some 0)]))) (by omega) hs13 hc13 (fun x h1 h2 => by rw [va_up_ne _ _ (by omega)]; exact hb x (by omega) (by omega))) ggX5_init_X0_init rfl wX5_init_39_0 wX5_init_39_1 wX5_init_39_2 rfl zX0_init ⟨(Nat.le_of_ble_eq_true rfl), (Nat.le_of_ble_eq_true rfl)⟩ dX5_init_53 rfl rfl (Nat.le_of_ble_eq_true rfl) (Nat.le_of_ble_eq_true rfl) (fun ad h => by show _ = _; simp only [h (b + 0) (by omega)]) (fun ad h => by show _ = _; simp only [h (b + 20) (by omega), h (b + 0) (by omega)]) rj_DI.p ?_
  rintro ω14 μ14 ⟨-, ha14, hn14, hs14, rfl, hc14⟩
  replace hn14 : ω14.1 = b + 25 := by omega
  have hA14 : ∀ j, j < ω.1 → ω14.2.2 j = ω.2.2 j := fun j hj => (ha14 j (by omega)).trans (hA13 j hj)
  clear ha14 hA13 hs13 hn13 hc13
  refine ri_putF (L := fun ad => [(0, .ref (ad (b + 0)))]) (ST := fun ad => []) (C0 := RX5) (T := TX5) (N := 8) (j := 4) (k := (b + 0)) (r := (b + 20)) (fs1 := [some (some ((b + 1) + 1)), some (some ((b + 2) + 1)), some (some ((b + 7) + 1)), some (some ((b + 16) + 1)), some (some ((b + 20) + 1)), some (some 0), some (some 0), some (some 0)]) dX5_init_56 rfl vX5_init_5 rfl (by omega) (by omega) hs14 (by decide) kX5_init_40 tyX5 tyX5_ok nmX5 rfl (fun _ h => h) rfl (Nat.le_of_ble_eq_true rfl) ⟨_, rfl⟩ (fun _ => rfl) (fun _ => rfl) hc14 rfl (fun ω15 hn15 hs15 ha15 hc15 => ?_)
  rw [hn14] at hn15
  have hA15 : ∀ j, j < ω.1 → ω15.2.2 j = ω.2.2 j := fun j hj => (congrFun ha15 j).trans (hA14 j hj)
  clear ha15 hA14 hs14 hn14 hc14
  refine ri_aload_n 0 dX5_init_59 rfl rfl ?_
  refine ri_newO (L := fun ad => [(0, .ref (ad (b + 0)))]) (ST := fun ad => [.ref (ad (b + 0))]) (nl := [some (some 0), none, some (some 0), some (some 0)]) (ci := 10) (K := 1) dX5_init_60 rfl vX5_init_10 rfl tyX10 tyX10_ok wX5_init_44_3 wX5_init_44_4 wX5_init_44_5 (by simp) (by decide +kernel) (Nat.le_of_ble_eq_true rfl) (Nat.le_of_ble_eq_true rfl) (Nat.le_of_ble_eq_true rfl) (Nat.le_of_ble_eq_true rfl) hc15 (fun ad h => by show _ = _; simp only [h (b + 0) (by omega)]) (fun ad h => by show _ = _; simp only [h (b + 0) (by omega)]) (fun ω16 hn16 hs16 ha16 hc16 => ?_)
  rw [hn15] at hn16 hs16 hc16 ⊢
  replace hn16 : ω16.1 = b + 26 := by omega
  rw [hs15] at hs16
  have hA16 : ∀ j, j < ω.1 → ω16.2.2 j = ω.2.2 j := fun j hj => (ha16 j (by omega)).trans (hA15 j hj)
  clear ha16 hA15 hs15 hn15 hc15
  refine ri_dup dX5_init_63 rfl rfl ?_
  refine ri_callIN (L := fun ad => [(0, .ref (ad (b + 0)))]) (ST := fun ad => [.ref (ad (b + 25)), .ref (ad (b + 0))]) (av := []) rfl (sX10_init (g := g) (ω := ω16) (rj_z (mX0_init (rj_z (mX3_init (rj_z (mX7_init (rj_z (mX4_init (rj_z (mX1_init (rj_z μ (b + 1)) b) (b + 2)) b) (b + 7)) b) (b + 16)) b) (b + 20)) b) (b + 25)) b (va_up sf (b + 0) (.inr (5, [some (some ((b + 1) + 1)), some (some ((b + 2) + 1)), some (some ((b + 7) + 1)), some (some ((b + 16) + 1)), some (some ((b + 20) + 1)), some (some 0), some (some 0), some (some 0)]))) (by omega) hs16 hc16 (fun x h1 h2 => by rw [va_up_ne _ _ (by omega)]; exact hb x (by omega) (by omega))) ggX5_init_X10_init rfl wX5_init_46_0 wX5_init_46_n wX5_init_46_2 rfl zX10_init ⟨(Nat.le_of_ble_eq_true rfl), (Nat.le_of_ble_eq_true rfl)⟩ dX5_init_64 rfl rfl (Nat.le_of_ble_eq_true rfl) (Nat.le_of_ble_eq_true rfl) (fun ad h => by show _ = _; simp only [h (b + 0) (by omega)]) (fun ad h => by show _ = _; simp only [h (b + 25) (by omega), h (b + 0) (by omega)]) rj_DI.p ?_
  rintro ω17 μ17 ⟨-, ha17, hn17, hs17, rfl, hc17⟩
  replace hn17 : ω17.1 = b + 29 := by omega
  have hA17 : ∀ j, j < ω.1 → ω17.2.2 j = ω.2.2 j := fun j hj => (ha17 j (by omega)).trans (hA16 j hj)
  clear ha17 hA16 hs16 hn16 hc16
  refine ri_putF (L := fun ad => [(0, .ref (ad (b + 0)))]) (ST := fun ad => []) (C0 := RX5) (T := TX5) (N := 8) (j := 5) (k := (b + 0)) (r := (b + 25)) (fs1 := [some (some ((b + 1) + 1)), some (some ((b + 2) + 1)), some (some ((b + 7) + 1)), some (some ((b + 16) + 1)), some (some ((b + 20) + 1)), some (some ((b + 25) + 1)), some (some 0), some (some 0)]) dX5_init_67 rfl vX5_init_5 rfl (by omega) (by omega) hs17 (by decide) kX5_init_47 tyX5 tyX5_ok nmX5 rfl (fun _ h => h) rfl (Nat.le_of_ble_eq_true rfl) ⟨_, rfl⟩ (fun _ => rfl) (fun _ => rfl) hc17 rfl (fun ω18 hn18 hs18 ha18 hc18 => ?_)
  rw [hn17] at hn18
  have hA18 : ∀ j, j < ω.1 → ω18.2.2 j = ω.2.2 j := fun j hj => (congrFun ha18 j).trans (hA17 j hj)
  clear ha18 hA17 hs17 hn17 hc17
  refine ri_aload_n 0 dX5_init_70 rfl rfl ?_
  refine ri_newO (L := fun ad => [(0, .ref (ad (b + 0)))]) (ST := fun ad => [.ref (ad (b + 0))]) (nl := [some (some 0), some (some 0), some (some 0), some (some 0), some (some 0), some (some 0), some (some 0), some (some 0)]) (ci := 6) (K := 1) dX5_init_71 rfl vX5_init_6 rfl tyX6 tyX6_ok wX5_init_51_3 wX5_init_51_4 wX5_init_51_5 (by simp) (by decide +kernel) (Nat.le_of_ble_eq_true rfl) (Nat.le_of_ble_eq_true rfl) (Nat.le_of_ble_eq_true rfl) (Nat.le_of_ble_eq_true rfl) hc18 (fun ad h => by show _ = _; simp only [h (b + 0) (by omega)]) (fun ad h => by show _ = _; simp only [h (b + 0) (by omega)]) (fun ω19 hn19 hs19 ha19 hc19 => ?_)
  rw [hn18] at hn19 hs19 hc19 ⊢
  replace hn19 : ω19.1 = b + 30 := by omega
  rw [hs18] at hs19
  have hA19 : ∀ j, j < ω.1 → ω19.2.2 j = ω.2.2 j := fun j hj => (ha19 j (by omega)).trans (hA18 j hj)
  clear ha19 hA18 hs18 hn18 hc18
  refine ri_dup dX5_init_74 rfl rfl ?_
  refine ri_callIN (L := fun ad => [(0, .ref (ad (b + 0)))]) (ST := fun ad => [.ref (ad (b + 29)), .ref (ad (b + 0))]) (av := []) rfl (sX6_init (g := g) (ω := ω19) (rj_z (mX10_init (rj_z (mX0_init (rj_z (mX3_init (rj_z (mX7_init (rj_z (mX4_init (rj_z (mX1_init (rj_z μ (b + 1)) b) (b + 2)) b) (b + 7)) b) (b + 16)) b) (b + 20)) b) (b + 25)) b) (b + 29)) b (va_up sf (b + 0) (.inr (5, [some (some ((b + 1) + 1)), some (some ((b + 2) + 1)), some (some ((b + 7) + 1)), some (some ((b + 16) + 1)), some (some ((b + 20) + 1)), some (some ((b + 25) + 1)), some (some 0), some (some 0)]))) (by omega) hs19 hc19 (fun x h1 h2 => by rw [va_up_ne _ _ (by omega)]; exact hb x (by omega) (by omega))) ggX5_init_X6_init rfl wX5_init_53_0 wX5_init_53_n wX5_init_53_2 rfl zX6_init ⟨(Nat.le_of_ble_eq_true rfl), (Nat.le_of_ble_eq_true rfl)⟩ dX5_init_75 rfl rfl (Nat.le_of_ble_eq_true rfl) (Nat.le_of_ble_eq_true rfl) (fun ad h => by show _ = _; simp only [h (b + 0) (by omega)]) (fun ad h => by show _ = _; simp only [h (b + 29) (by omega), h (b + 0) (by omega)]) rj_DI.p ?_
  rintro ω20 μ20 ⟨-, ha20, hn20, hs20, rfl, hc20⟩
  replace hn20 : ω20.1 = b + 38 := by omega
  have hA20 : ∀ j, j < ω.1 → ω20.2.2 j = ω.2.2 j := fun j hj => (ha20 j (by omega)).trans (hA19 j hj)
  clear ha20 hA19 hs19 hn19 hc19
  refine ri_putF (L := fun ad => [(0, .ref (ad (b + 0)))]) (ST := fun ad => []) (C0 := RX5) (T := TX5) (N := 8) (j := 6) (k := (b + 0)) (r := (b + 29)) (fs1 := [some (some ((b + 1) + 1)), some (some ((b + 2) + 1)), some (some ((b + 7) + 1)), some (some ((b + 16) + 1)), some (some ((b + 20) + 1)), some (some ((b + 25) + 1)), some (some ((b + 29) + 1)), some (some 0)]) dX5_init_78 rfl vX5_init_5 rfl (by omega) (by omega) hs20 (by decide) kX5_init_54 tyX5 tyX5_ok nmX5 rfl (fun _ h => h) rfl (Nat.le_of_ble_eq_true rfl) ⟨_, rfl⟩ (fun _ => rfl) (fun _ => rfl) hc20 rfl (fun ω21 hn21 hs21 ha21 hc21 => ?_)
  rw [hn20] at hn21
  have hA21 : ∀ j, j < ω.1 → ω21.2.2 j = ω.2.2 j := fun j hj => (congrFun ha21 j).trans (hA20 j hj)
  clear ha21 hA20 hs20 hn20 hc20
  refine ri_aload_n 0 dX5_init_81 rfl rfl ?_
  refine ri_newO (L := fun ad => [(0, .ref (ad (b + 0)))]) (ST := fun ad => [.ref (ad (b + 0))]) (nl := [some (some 0), some (some 0), some none, some (some 0), some (some 0)]) (ci := 8) (K := 1) dX5_init_82 rfl vX5_init_8 rfl tyX8 tyX8_ok wX5_init_58_3 wX5_init_58_4 wX5_init_58_5 (by simp) (by decide +kernel) (Nat.le_of_ble_eq_true rfl) (Nat.le_of_ble_eq_true rfl) (Nat.le_of_ble_eq_true rfl) (Nat.le_of_ble_eq_true rfl) hc21 (fun ad h => by show _ = _; simp only [h (b + 0) (by omega)]) (fun ad h => by show _ = _; simp only [h (b + 0) (by omega)]) (fun ω22 hn22 hs22 ha22 hc22 => ?_)
  rw [hn21] at hn22 hs22 hc22 ⊢
  replace hn22 : ω22.1 = b + 39 := by omega
  rw [hs21] at hs22
  have hA22 : ∀ j, j < ω.1 → ω22.2.2 j = ω.2.2 j := fun j hj => (ha22 j (by omega)).trans (hA21 j hj)
  clear ha22 hA21 hs21 hn21 hc21
  refine ri_dup dX5_init_85 rfl rfl ?_
  refine ri_callI (L := fun ad => [(0, .ref (ad (b + 0)))]) (ST := fun ad => [.ref (ad (b + 38)), .ref (ad (b + 0))]) (av := []) rfl (sX8_init (g := g) (ω := ω22) (rj_z (mX6_init (rj_z (mX10_init (rj_z (mX0_init (rj_z (mX3_init (rj_z (mX7_init (rj_z (mX4_init (rj_z (mX1_init (rj_z μ (b + 1)) b) (b + 2)) b) (b + 7)) b) (b + 16)) b) (b + 20)) b) (b + 25)) b) (b + 29)) b) (b + 38)) b (va_up sf (b + 0) (.inr (5, [some (some ((b + 1) + 1)), some (some ((b + 2) + 1)), some (some ((b + 7) + 1)), some (some ((b + 16) + 1)), some (some ((b + 20) + 1)), some (some ((b + 25) + 1)), some (some ((b + 29) + 1)), some (some 0)]))) (by omega) hs22 hc22 (fun x h1 h2 => by rw [va_up_ne _ _ (by omega)]; exact hb x (by omega) (by omega))) ggX5_init_X8_init rfl wX5_init_60_0 wX5_init_60_1 wX5_init_60_2 rfl zX8_init ⟨(Nat.le_of_ble_eq_true rfl), (Nat.le_of_ble_eq_true rfl)⟩ dX5_init_86 rfl rfl (Nat.le_of_ble_eq_true rfl) (Nat.le_of_ble_eq_true rfl) (fun ad h => by show _ = _; simp only [h (b + 0) (by omega)]) (fun ad h => by show _ = _; simp only [h (b + 38) (by omega), h (b + 0) (by omega)]) rj_DI.p ?_
  rintro ω23 μ23 ⟨-, ha23, hn23, hs23, rfl, hc23⟩
  replace hn23 : ω23.1 = b + 43 := by omega
  have hA23 : ∀ j, j < ω.1 → ω23.2.2 j = ω.2.2 j := fun j hj => (ha23 j (by omega)).trans (hA22 j hj)
  clear ha23 hA22 hs22 hn22 hc22
  refine ri_putF (L := fun ad => [(0, .ref (ad (b + 0)))]) (ST := fun ad => []) (C0 := RX5) (T := TX5) (N := 8) (j := 7) (k := (b + 0)) (r := (b + 38)) (fs1 := [some (some ((b + 1) + 1)), some (some ((b + 2) + 1)), some (some ((b + 7) + 1)), some (some ((b + 16) + 1)), some (some ((b + 20) + 1)), some (some ((b + 25) + 1)), some (some ((b + 29) + 1)), some (some ((b + 38) + 1))]) dX5_init_89 rfl vX5_init_5 rfl (by omega) (by omega) hs23 (by decide) kX5_init_61 tyX5 tyX5_ok nmX5 rfl (fun _ h => h) rfl (Nat.le_of_ble_eq_true rfl) ⟨_, rfl⟩ (fun _ => rfl) (fun _ => rfl) hc23 rfl (fun ω24 hn24 hs24 ha24 hc24 => ?_)
  rw [hn23] at hn24
  have hA24 : ∀ j, j < ω.1 → ω24.2.2 j = ω.2.2 j := fun j hj => (congrFun ha24 j).trans (hA23 j hj)
  clear ha24 hA23 hs23 hn23 hc23
  have hsF : ω24.2.1 = sf := hs24.trans (va_up_id ((hb 0 (by omega) (by omega)).trans (lm_0 b)))
  exact rj_RI.of (rj_vret dX5_init_92 rfl (Nat.le_of_ble_eq_true rfl) (Nat.le_of_ble_eq_true rfl) ⟨rfl, hA24, hn24, hsF, rfl, hc24⟩)
