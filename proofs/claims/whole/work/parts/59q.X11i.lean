theorem ly_now (x : Nat) (hx : x < 43) : rj_lay (1 + x) = rj_lm 1 x := by
  unfold rj_lay
  rw [if_neg (by omega), if_pos (by omega)]
  congr 1
  omega
theorem wX11_init_3_0 : Cond.methodLink RX11 3 Lib.objectInit ∈ wsX11_init := by decide +kernel
theorem wX11_init_3_1 : Cond.instanceMethod Lib.objectInit ∈ wsX11_init := by decide +kernel
theorem wX11_init_3_2 : Cond.code Lib.objectInit ⟨#[0xb1]⟩ 1 none ∈ wsX11_init := by decide +kernel
theorem vX11_init_5 : ∀ w ∈ u_ws RX5 TX5 8, w ∈ wsX11_init := by decide +kernel
theorem wX11_init_9_3 : Cond.classLink RX11 9 RX5 ∈ wsX11_init := by decide +kernel
theorem wX11_init_9_4 : Cond.instantiable RX5 8 ∈ wsX11_init := by decide +kernel
theorem wX11_init_9_5 : Cond.initialized RX5 ∈ wsX11_init := by decide +kernel
theorem wX11_init_11_0 : Cond.initialized yX5_init.cls ∈ wsX11_init := by decide +kernel
theorem wX11_init_11_n : (RX11, 11, yX5_init, "Festivalgrounds") ∈ rj_nw := by decide +kernel
theorem wX11_init_11_2 : Cond.instanceMethod yX5_init ∈ wsX11_init := by decide +kernel
theorem zX5_init : yX5_init.cls ≠ "java/lang/invoke/MethodHandle" ∧ yX5_init.cls ≠ "java/lang/invoke/VarHandle" ∧ (parseMethodDescriptor yX5_init.desc).map (fun d => d.parameters.length) = some 0 := by decide +kernel
theorem kX11_init_12 : Cond.fieldLink RX11 12 (TX11 0).1 (TX11 0).2.1 (TX11 0).2.2.1 ∈ wsX11_init := by decide +kernel
theorem vX11_init_11 : ∀ w ∈ u_ws RX11 TX11 6, w ∈ wsX11_init := by decide +kernel
theorem wX11_init_9_7 : Cond.classLink RX11 9 RX5 ∈ wsX11_init := by decide +kernel
theorem kX11_init_16 : Cond.fieldLink RX11 16 (TX11 1).1 (TX11 1).2.1 (TX11 1).2.2.1 ∈ wsX11_init := by decide +kernel
theorem vX11_init_2 : ∀ w ∈ u_ws RX2 TX2 4, w ∈ wsX11_init := by decide +kernel
theorem wX11_init_20_3 : Cond.classLink RX11 20 RX2 ∈ wsX11_init := by decide +kernel
theorem wX11_init_20_4 : Cond.instantiable RX2 4 ∈ wsX11_init := by decide +kernel
theorem wX11_init_20_5 : Cond.initialized RX2 ∈ wsX11_init := by decide +kernel
theorem kX11_init_22 : Cond.fieldLink RX11 22 (TX5 1).1 (TX5 1).2.1 (TX5 1).2.2.1 ∈ wsX11_init := by decide +kernel
theorem kX11_init_26 : Cond.fieldLink RX11 26 (TX5 2).1 (TX5 2).2.1 (TX5 2).2.2.1 ∈ wsX11_init := by decide +kernel
theorem wX11_init_30_0 : Cond.initialized yX2_init.cls ∈ wsX11_init := by decide +kernel
theorem wX11_init_30_1 : Cond.methodLink RX11 30 yX2_init ∈ wsX11_init := by decide +kernel
theorem wX11_init_30_2 : Cond.instanceMethod yX2_init ∈ wsX11_init := by decide +kernel
theorem zX2_init : yX2_init.cls ≠ "java/lang/invoke/MethodHandle" ∧ yX2_init.cls ≠ "java/lang/invoke/VarHandle" ∧ (parseMethodDescriptor yX2_init.desc).map (fun d => d.parameters.length) = some 2 := by decide +kernel
theorem kX11_init_33 : Cond.fieldLink RX11 33 (TX11 2).1 (TX11 2).2.1 (TX11 2).2.2.1 ∈ wsX11_init := by decide +kernel
theorem vX11_init_9 : ∀ w ∈ u_ws RX9 TX9 8, w ∈ wsX11_init := by decide +kernel
theorem wX11_init_37_3 : Cond.classLink RX11 37 RX9 ∈ wsX11_init := by decide +kernel
theorem wX11_init_37_4 : Cond.instantiable RX9 8 ∈ wsX11_init := by decide +kernel
theorem wX11_init_37_5 : Cond.initialized RX9 ∈ wsX11_init := by decide +kernel
theorem wX11_init_39_0 : Cond.initialized yX9_init.cls ∈ wsX11_init := by decide +kernel
theorem wX11_init_39_1 : Cond.methodLink RX11 39 yX9_init ∈ wsX11_init := by decide +kernel
theorem wX11_init_39_2 : Cond.instanceMethod yX9_init ∈ wsX11_init := by decide +kernel
theorem zX9_init : yX9_init.cls ≠ "java/lang/invoke/MethodHandle" ∧ yX9_init.cls ≠ "java/lang/invoke/VarHandle" ∧ (parseMethodDescriptor yX9_init.desc).map (fun d => d.parameters.length) = some 2 := by decide +kernel
theorem kX11_init_40 : Cond.fieldLink RX11 40 (TX11 3).1 (TX11 3).2.1 (TX11 3).2.2.1 ∈ wsX11_init := by decide +kernel
theorem kX11_init_44 : Cond.fieldLink RX11 44 (TX11 4).1 (TX11 4).2.1 (TX11 4).2.2.1 ∈ wsX11_init := by decide +kernel
theorem kX11_init_48 : Cond.fieldLink RX11 48 (TX11 5).1 (TX11 5).2.1 (TX11 5).2.2.1 ∈ wsX11_init := by decide +kernel
def bX11_init_86 (j : Nat) (s : rj_M) : rj_M := rj_pq (mX5_init (rj_z s (51 + 43 * j)) (51 + 43 * j)) 44 (nI j).toNatClampNeg (51 + 43 * j + 1)
def mX11_init (μ : rj_M) : rj_M := rj_fo bX11_init_86 8 0 (rj_pi (rj_pi (mX9_init (rj_z (mX2_init (rj_z (rj_z (mX5_init (rj_z μ 1) 1) 44) 45)) 47)) 0 4 0) 0 5 0)
set_option maxHeartbeats 40000000 in
set_option maxRecDepth 100000 in
theorem lX11_init_86 {g : rj_G} {P : rj_P} {u0 : Nat} : ∀ (r j : Nat), j + r = 8 → ∀ (ω : rj_W) (μ : rj_M), ω.1 = 51 + 43 * j → ω.2.1 = rj_lay → rj_cl ω μ → ∀ u : Nat, u + 159 * r ≤ 1440 → (∀ ω' : rj_W, (∀ i, i < ω.1 → ω'.2.2 i = ω.2.2 i) → ω'.1 = 395 → ω'.2.1 = rj_lay → rj_cl ω' (rj_fo bX11_init_86 r j μ) → P (.inl none) ω' (rj_fo bX11_init_86 r j μ)) → rj_R g RX11 cX11_init 2 none wsX11_init [] (rj_rm 8 1440) (rj_E g (rj_rm 8 1440) P) u ω μ [(0, .ref (ω.2.2 0)), (1, .int (nI j))] 86 [] := by
  intro r
  induction r with
  | zero =>
    intro j hj ω μ hn hs hc u hu K
    have e0 : j = 8 := by omega
    subst e0
    refine rj_iload_n 1 dX11_init_86 rfl rfl ?_
    refine rj_bipush (v := 8) dX11_init_87 rfl (by decide) ?_
    refine rj_icmp_ge dX11_init_89 rfl rfl (fun h => ?_) (fun h => absurd (Int32.le_refl _) h)
    exact rj_vret dX11_init_111 rfl (by show u ≤ 1440; omega) (by show 8 * u ≤ 8 * 1440; omega) (K ω (fun _ _ => rfl) hn hs hc)
  | succ r ih =>
    intro j hj ω μ hn hs hc u hu K
    have hl : j < 8 := by omega
    refine rj_iload_n 1 dX11_init_86 rfl rfl ?_
    refine rj_bipush (v := 8) dX11_init_87 rfl (by decide) ?_
    refine rj_icmp_ge dX11_init_89 rfl rfl (fun h => absurd h (nI_ge (a := j) (b := 8) hl (rj_bl rfl))) (fun h => ?_)
    refine rj_aload_n 0 dX11_init_92 rfl rfl ?_
    refine rj_getR (C0 := RX11) (T := TX11) (N := 6) (j := 1) (r := 44) dX11_init_93 rfl vX11_init_11 rfl (by omega) (by rw [hs]; exact ly_0) (by decide) kX11_init_16 rfl ?_
    refine rj_iload_n 1 dX11_init_96 rfl rfl ?_
    refine rj_RI.R (ri_newO (L := fun ad => [(0, .ref (ad 0)), (1, .int (nI j))]) (ST := fun ad => [.int (nI j), .ref (ad 44)]) (nl := [some (some 0), some (some 0), some (some 0), some (some 0), some (some 0), some (some 0), some (some 0), some (some 0)]) (ci := 5) (K := 1) dX11_init_97 rfl vX11_init_5 rfl tyX5 tyX5_ok wX11_init_9_3 wX11_init_9_4 wX11_init_9_5 (by simp) (by decide +kernel) (Nat.le_of_ble_eq_true rfl) (Nat.le_of_ble_eq_true rfl) (by show u + 1 ≤ 1440; omega) (by show 8 * (u + 1) ≤ 8 * 1440; omega) hc (fun ad h => by show _ = _; simp only [h 0 (by omega)]) (fun ad h => by show _ = _; simp only [h 44 (by omega)]) (fun ω1 hn1 hs1 ha1 hc1 => ?_))
    rw [hn] at hn1 hs1 hc1 ⊢
    rw [hs] at hs1
    refine ri_dup dX11_init_100 rfl rfl ?_
    refine ri_callIN (L := fun ad => [(0, .ref (ad 0)), (1, .int (nI j))]) (ST := fun ad => [.ref (ad (51 + 43 * j)), .int (nI j), .ref (ad 44)]) (av := []) rfl (sX5_init (g := g) (ω := ω1) (rj_z μ (51 + 43 * j)) (51 + 43 * j) rj_lay (by omega) hs1 hc1 (fun x h1 h2 => ly_past j hl x h2)) ggX11_init_X5_init rfl wX11_init_11_0 wX11_init_11_n wX11_init_11_2 rfl zX5_init ⟨(Nat.le_of_ble_eq_true rfl), (Nat.le_of_ble_eq_true rfl)⟩ dX11_init_101 rfl rfl (Nat.le_of_ble_eq_true rfl) (by show u + 1 + 158 ≤ 1440; omega) (fun ad h => by show _ = _; simp only [h 0 (by omega)]) (fun ad h => by show _ = _; simp only [h (51 + 43 * j) (by omega), h 44 (by omega)]) rj_DI.p ?_
    rintro ω2 μ2 ⟨-, ha2, hn2, hs2, rfl, hc2⟩
    refine rj_RI.of ?_
    refine rj_qastO dX11_init_104 rfl (by omega) (by rw [hs2]; exact ly_44) (vp_in_nI hl (rj_bl rfl)) (by omega) (by rw [hs2]; exact (ly_past j hl 0 (by omega))) ?_
    refine rj_iinc (v := nI (j + 1)) (l' := [(1, .int (nI (j + 1))), (0, .ref (ω2.2.2 0))]) 1 dX11_init_105 rfl rfl (nI_succ j).symm (rj_bl rfl) rfl ?_
    refine rj_goto dX11_init_108 rfl ?_
    refine rj_sub (l' := [(0, .ref (ω2.2.2 0)), (1, .int (nI (j + 1)))]) [1, 0] rfl ?_
    have hc3 : rj_cl ω2 (bX11_init_86 j μ) := by
      intro k hk
      have h3 := hc2 k hk
      by_cases e : k = 44
      · subst e
        rw [hs2, ly_44] at h3 ⊢
        intro _ i
        have e9 : (bX11_init_86 j μ).2.2.2 44 = va_up ((mX5_init (rj_z μ (51 + 43 * j)) (51 + 43 * j)).2.2.2 44) (nI j).toNatClampNeg (51 + 43 * j + 1) := by
          unfold bX11_init_86 rj_pq
          dsimp only
          exact va_up_self _ _ _
        rw [e9]
        by_cases e2 : i = (nI j).toNatClampNeg
        · subst e2
          rw [va_up_self]
          omega
        · rw [va_up_ne _ _ e2]
          exact h3 (by decide) i
      · exact h3.mono (Nat.le_refl _) (va_up_ne _ _ e)
    exact ih (j + 1) (by omega) ω2 (bX11_init_86 j μ) (by omega) hs2 hc3 (u + 1 + 158) (by omega) (fun ω' h1 h2 h3 h4 => K ω' (fun i hi => ((h1 i (by omega)).trans (ha2 i (by omega))).trans (ha1 i hi)) h2 h3 h4)
set_option maxHeartbeats 40000000 in
set_option maxRecDepth 100000 in
theorem sX11_init {g : rj_G} {ω : rj_W} (μ : rj_M) (sf : Nat → rj_Sh) (hb0 : sf = rj_lay) (hn : ω.1 = 0 + 1) (hs : ω.2.1 = va_up sf 0 (.inr (11, [some (some 0), some (some 0), some (some 0), some (some 0), none, none]))) (hc : rj_cl ω μ) (hb : ∀ x, 0 ≤ x → x < 395 → sf x = rj_lay x) : rj_Sp g yX11_init wsX11_init (rj_rm 8 1440) [.ref (ω.2.2 0)] ω μ (rj_DI ω 395 sf (mX11_init μ)) := by
  refine ri_of (cc := cX11_init) (nL := 2) (ret := none) (own := RX11) (l0 := [(0, .ref (ω.2.2 0))]) rfl (by decide +kernel) rfl rfl (Nat.le_of_ble_eq_true rfl) rfl ?_
  replace hn : ω.1 = 1 := by omega
  refine ri_aload_n 0 dX11_init_0 rfl rfl ?_
  refine ri_obj dX11_init_1 rfl wX11_init_3_0 wX11_init_3_1 wX11_init_3_2 (Nat.le_of_ble_eq_true rfl) (Nat.le_of_ble_eq_true rfl) (Nat.le_of_ble_eq_true rfl) ?_
  refine ri_aload_n 0 dX11_init_4 rfl rfl ?_
  refine ri_newO (L := fun ad => [(0, .ref (ad 0))]) (ST := fun ad => [.ref (ad 0)]) (nl := [some (some 0), some (some 0), some (some 0), some (some 0), some (some 0), some (some 0), some (some 0), some (some 0)]) (ci := 5) (K := 1) dX11_init_5 rfl vX11_init_5 rfl tyX5 tyX5_ok wX11_init_9_3 wX11_init_9_4 wX11_init_9_5 (by simp) (by decide +kernel) (Nat.le_of_ble_eq_true rfl) (Nat.le_of_ble_eq_true rfl) (Nat.le_of_ble_eq_true rfl) (Nat.le_of_ble_eq_true rfl) hc (fun ad h => by show _ = _; simp only [h 0 (by omega)]) (fun ad h => by show _ = _; simp only [h 0 (by omega)]) (fun ω1 hn1 hs1 ha1 hc1 => ?_)
  rw [hn] at hn1 hs1 hc1 ⊢
  replace hn1 : ω1.1 = 2 := by omega
  rw [hs] at hs1
  have hA1 : ∀ j, j < ω.1 → ω1.2.2 j = ω.2.2 j := fun j hj => ha1 j (by omega)
  clear ha1
  refine ri_dup dX11_init_8 rfl rfl ?_
  refine ri_callIN (L := fun ad => [(0, .ref (ad 0))]) (ST := fun ad => [.ref (ad 1), .ref (ad 0)]) (av := []) rfl (sX5_init (g := g) (ω := ω1) (rj_z μ 1) 1 (va_up sf 0 (.inr (11, [some (some 0), some (some 0), some (some 0), some (some 0), none, none]))) (by omega) hs1 hc1 (fun x h1 h2 => by rw [va_up_ne _ _ (by omega)]; exact (hb (1 + x) (by omega) (by omega)).trans (ly_now x h2))) ggX11_init_X5_init rfl wX11_init_11_0 wX11_init_11_n wX11_init_11_2 rfl zX5_init ⟨(Nat.le_of_ble_eq_true rfl), (Nat.le_of_ble_eq_true rfl)⟩ dX11_init_9 rfl rfl (Nat.le_of_ble_eq_true rfl) (Nat.le_of_ble_eq_true rfl) (fun ad h => by show _ = _; simp only [h 0 (by omega)]) (fun ad h => by show _ = _; simp only [h 1 (by omega), h 0 (by omega)]) rj_DI.p ?_
  rintro ω2 μ2 ⟨-, ha2, hn2, hs2, rfl, hc2⟩
  replace hn2 : ω2.1 = 44 := by omega
  have hA2 : ∀ j, j < ω.1 → ω2.2.2 j = ω.2.2 j := fun j hj => (ha2 j (by omega)).trans (hA1 j hj)
  clear ha2 hA1 hs1 hn1 hc1
  refine ri_putF (L := fun ad => [(0, .ref (ad 0))]) (ST := fun ad => []) (C0 := RX11) (T := TX11) (N := 6) (j := 0) (k := 0) (r := 1) (fs1 := [some (some 2), some (some 0), some (some 0), some (some 0), none, none]) dX11_init_12 rfl vX11_init_11 rfl (by omega) (by omega) hs2 (by decide) kX11_init_12 tyX11 tyX11_ok nmX11 rfl (fun _ h => h) rfl (Nat.le_of_ble_eq_true rfl) ⟨_, rfl⟩ (fun _ => rfl) (fun _ => rfl) hc2 rfl (fun ω3 hn3 hs3 ha3 hc3 => ?_)
  rw [hn2] at hn3
  have hA3 : ∀ j, j < ω.1 → ω3.2.2 j = ω.2.2 j := fun j hj => (congrFun ha3 j).trans (hA2 j hj)
  clear ha3 hA2 hs2 hn2 hc2
  refine ri_aload_n 0 dX11_init_15 rfl rfl ?_
  refine ri_bipush (v := 8) dX11_init_16 rfl (by decide) ?_
  refine ri_anew (L := fun ad => [(0, .ref (ad 0))]) (ST := fun ad => [.ref (ad 0)]) (N := 8) (K := 1) dX11_init_18 rfl wX11_init_9_7 (by decide) rfl (Nat.le_of_ble_eq_true rfl) (Nat.le_of_ble_eq_true rfl) (Nat.le_of_ble_eq_true rfl) (Nat.le_of_ble_eq_true rfl) (Nat.le_of_ble_eq_true rfl) hc3 (by rw [hn3, hs3, va_up_ne _ _ (by omega)]; exact (hb _ (by omega) (by omega)).trans ly_44) (fun ad h => by show _ = _; simp only [h 0 (by omega)]) (fun ad h => by show _ = _; simp only [h 0 (by omega)]) (fun ω4 hn4 hs4 ha4 hc4 => ?_)
  rw [hn3] at hn4 hc4 ⊢
  replace hn4 : ω4.1 = 45 := by omega
  rw [hs3] at hs4
  have hA4 : ∀ j, j < ω.1 → ω4.2.2 j = ω.2.2 j := fun j hj => (ha4 j (by omega)).trans (hA3 j hj)
  clear ha4 hA3 hs3 hn3 hc3
  refine ri_putF (L := fun ad => [(0, .ref (ad 0))]) (ST := fun ad => []) (C0 := RX11) (T := TX11) (N := 6) (j := 1) (k := 0) (r := 44) (fs1 := [some (some 2), some (some 45), some (some 0), some (some 0), none, none]) dX11_init_21 rfl vX11_init_11 rfl (by omega) (by omega) hs4 (by decide) kX11_init_16 tyX11 tyX11_ok nmX11 rfl (fun _ h => h) rfl (Nat.le_of_ble_eq_true rfl) ⟨_, rfl⟩ (fun _ => rfl) (fun _ => rfl) hc4 rfl (fun ω5 hn5 hs5 ha5 hc5 => ?_)
  rw [hn4] at hn5
  have hA5 : ∀ j, j < ω.1 → ω5.2.2 j = ω.2.2 j := fun j hj => (congrFun ha5 j).trans (hA4 j hj)
  clear ha5 hA4 hs4 hn4 hc4
  refine ri_aload_n 0 dX11_init_24 rfl rfl ?_
  refine ri_newO (L := fun ad => [(0, .ref (ad 0))]) (ST := fun ad => [.ref (ad 0)]) (nl := [some (some 0), some (some 0), some (some 0), none]) (ci := 2) (K := 1) dX11_init_25 rfl vX11_init_2 rfl tyX2 tyX2_ok wX11_init_20_3 wX11_init_20_4 wX11_init_20_5 (by simp) (by decide +kernel) (Nat.le_of_ble_eq_true rfl) (Nat.le_of_ble_eq_true rfl) (Nat.le_of_ble_eq_true rfl) (Nat.le_of_ble_eq_true rfl) hc5 (fun ad h => by show _ = _; simp only [h 0 (by omega)]) (fun ad h => by show _ = _; simp only [h 0 (by omega)]) (fun ω6 hn6 hs6 ha6 hc6 => ?_)
  rw [hn5] at hn6 hs6 hc6 ⊢
  replace hn6 : ω6.1 = 46 := by omega
  rw [hs5] at hs6
  have hA6 : ∀ j, j < ω.1 → ω6.2.2 j = ω.2.2 j := fun j hj => (ha6 j (by omega)).trans (hA5 j hj)
  clear ha6 hA5 hs5 hn5 hc5
  refine ri_dup dX11_init_28 rfl rfl ?_
  refine ri_aload_n 0 dX11_init_29 rfl rfl ?_
  refine ri_getR (C0 := RX11) (T := TX11) (N := 6) (j := 0) (r := 1) dX11_init_30 rfl vX11_init_11 rfl (by omega) (by rw [hs6, va_up_ne _ _ (by omega), va_up_self]) (by decide) kX11_init_12 rfl ?_
  refine ri_getR (C0 := RX5) (T := TX5) (N := 8) (j := 1) (r := 3) dX11_init_33 rfl vX11_init_5 rfl (by omega) (by rw [hs6, va_up_ne _ _ (by omega), va_up_ne _ _ (by omega)]; exact (hb _ (by omega) (by omega)).trans ly_1) (by decide) kX11_init_22 rfl ?_
  refine ri_aload_n 0 dX11_init_36 rfl rfl ?_
  refine ri_getR (C0 := RX11) (T := TX11) (N := 6) (j := 0) (r := 1) dX11_init_37 rfl vX11_init_11 rfl (by omega) (by rw [hs6, va_up_ne _ _ (by omega), va_up_self]) (by decide) kX11_init_12 rfl ?_
  refine ri_getR (C0 := RX5) (T := TX5) (N := 8) (j := 2) (r := 8) dX11_init_40 rfl vX11_init_5 rfl (by omega) (by rw [hs6, va_up_ne _ _ (by omega), va_up_ne _ _ (by omega)]; exact (hb _ (by omega) (by omega)).trans ly_1) (by decide) kX11_init_26 rfl ?_
  refine ri_callI (L := fun ad => [(0, .ref (ad 0))]) (ST := fun ad => [.ref (ad 45), .ref (ad 0)]) (av := [.ref (ω6.2.2 3), .ref (ω6.2.2 8)]) rfl (sX2_init (g := g) (ω := ω6) (rj_z (rj_z (mX5_init (rj_z μ 1) 1) 44) 45) (va_up sf 0 (.inr (11, [some (some 2), some (some 45), some (some 0), some (some 0), none, none]))) (by omega) hs6 hc6 (fun x h1 h2 => by rw [va_up_ne _ _ (by omega)]; exact hb x (by omega) (by omega))) ggX11_init_X2_init rfl wX11_init_30_0 wX11_init_30_1 wX11_init_30_2 rfl zX2_init ⟨(Nat.le_of_ble_eq_true rfl), (Nat.le_of_ble_eq_true rfl)⟩ dX11_init_43 rfl rfl (Nat.le_of_ble_eq_true rfl) (Nat.le_of_ble_eq_true rfl) (fun ad h => by show _ = _; simp only [h 0 (by omega)]) (fun ad h => by show _ = _; simp only [h 45 (by omega), h 0 (by omega)]) rj_DI.p ?_
  rintro ω7 μ7 ⟨-, ha7, hn7, hs7, rfl, hc7⟩
  replace hn7 : ω7.1 = 47 := by omega
  have hA7 : ∀ j, j < ω.1 → ω7.2.2 j = ω.2.2 j := fun j hj => (ha7 j (by omega)).trans (hA6 j hj)
  clear ha7 hA6 hs6 hn6 hc6
  refine ri_putF (L := fun ad => [(0, .ref (ad 0))]) (ST := fun ad => []) (C0 := RX11) (T := TX11) (N := 6) (j := 2) (k := 0) (r := 45) (fs1 := [some (some 2), some (some 45), some (some 46), some (some 0), none, none]) dX11_init_46 rfl vX11_init_11 rfl (by omega) (by omega) hs7 (by decide) kX11_init_33 tyX11 tyX11_ok nmX11 rfl (fun _ h => h) rfl (Nat.le_of_ble_eq_true rfl) ⟨_, rfl⟩ (fun _ => rfl) (fun _ => rfl) hc7 rfl (fun ω8 hn8 hs8 ha8 hc8 => ?_)
  rw [hn7] at hn8
  have hA8 : ∀ j, j < ω.1 → ω8.2.2 j = ω.2.2 j := fun j hj => (congrFun ha8 j).trans (hA7 j hj)
  clear ha8 hA7 hs7 hn7 hc7
  refine ri_aload_n 0 dX11_init_49 rfl rfl ?_
  refine ri_newO (L := fun ad => [(0, .ref (ad 0))]) (ST := fun ad => [.ref (ad 0)]) (nl := [some (some 0), some (some 0), none, some (some 0), some (some 0), none, some (some 0), none]) (ci := 9) (K := 1) dX11_init_50 rfl vX11_init_9 rfl tyX9 tyX9_ok wX11_init_37_3 wX11_init_37_4 wX11_init_37_5 (by simp) (by decide +kernel) (Nat.le_of_ble_eq_true rfl) (Nat.le_of_ble_eq_true rfl) (Nat.le_of_ble_eq_true rfl) (Nat.le_of_ble_eq_true rfl) hc8 (fun ad h => by show _ = _; simp only [h 0 (by omega)]) (fun ad h => by show _ = _; simp only [h 0 (by omega)]) (fun ω9 hn9 hs9 ha9 hc9 => ?_)
  rw [hn8] at hn9 hs9 hc9 ⊢
  replace hn9 : ω9.1 = 48 := by omega
  rw [hs8] at hs9
  have hA9 : ∀ j, j < ω.1 → ω9.2.2 j = ω.2.2 j := fun j hj => (ha9 j (by omega)).trans (hA8 j hj)
  clear ha9 hA8 hs8 hn8 hc8
  refine ri_dup dX11_init_53 rfl rfl ?_
  refine ri_aload_n 0 dX11_init_54 rfl rfl ?_
  refine ri_getR (C0 := RX11) (T := TX11) (N := 6) (j := 0) (r := 1) dX11_init_55 rfl vX11_init_11 rfl (by omega) (by rw [hs9, va_up_ne _ _ (by omega), va_up_self]) (by decide) kX11_init_12 rfl ?_
  refine ri_getR (C0 := RX5) (T := TX5) (N := 8) (j := 1) (r := 3) dX11_init_58 rfl vX11_init_5 rfl (by omega) (by rw [hs9, va_up_ne _ _ (by omega), va_up_ne _ _ (by omega)]; exact (hb _ (by omega) (by omega)).trans ly_1) (by decide) kX11_init_22 rfl ?_
  refine ri_aload_n 0 dX11_init_61 rfl rfl ?_
  refine ri_getR (C0 := RX11) (T := TX11) (N := 6) (j := 0) (r := 1) dX11_init_62 rfl vX11_init_11 rfl (by omega) (by rw [hs9, va_up_ne _ _ (by omega), va_up_self]) (by decide) kX11_init_12 rfl ?_
  refine ri_getR (C0 := RX5) (T := TX5) (N := 8) (j := 2) (r := 8) dX11_init_65 rfl vX11_init_5 rfl (by omega) (by rw [hs9, va_up_ne _ _ (by omega), va_up_ne _ _ (by omega)]; exact (hb _ (by omega) (by omega)).trans ly_1) (by decide) kX11_init_26 rfl ?_
  refine ri_callI (L := fun ad => [(0, .ref (ad 0))]) (ST := fun ad => [.ref (ad 47), .ref (ad 0)]) (av := [.ref (ω9.2.2 3), .ref (ω9.2.2 8)]) rfl (sX9_init (g := g) (ω := ω9) (rj_z (mX2_init (rj_z (rj_z (mX5_init (rj_z μ 1) 1) 44) 45)) 47) (va_up sf 0 (.inr (11, [some (some 2), some (some 45), some (some 46), some (some 0), none, none]))) (by omega) hs9 hc9 (fun x h1 h2 => by rw [va_up_ne _ _ (by omega)]; exact hb x (by omega) (by omega))) ggX11_init_X9_init rfl wX11_init_39_0 wX11_init_39_1 wX11_init_39_2 rfl zX9_init ⟨(Nat.le_of_ble_eq_true rfl), (Nat.le_of_ble_eq_true rfl)⟩ dX11_init_68 rfl rfl (Nat.le_of_ble_eq_true rfl) (Nat.le_of_ble_eq_true rfl) (fun ad h => by show _ = _; simp only [h 0 (by omega)]) (fun ad h => by show _ = _; simp only [h 47 (by omega), h 0 (by omega)]) rj_DI.p ?_
  rintro ω10 μ10 ⟨-, ha10, hn10, hs10, rfl, hc10⟩
  replace hn10 : ω10.1 = 51 := by omega
  have hA10 : ∀ j, j < ω.1 → ω10.2.2 j = ω.2.2 j := fun j hj => (ha10 j (by omega)).trans (hA9 j hj)
  clear ha10 hA9 hs9 hn9 hc9
  refine ri_putF (L := fun ad => [(0, .ref (ad 0))]) (ST := fun ad => []) (C0 := RX11) (T := TX11) (N := 6) (j := 3) (k := 0) (r := 47) (fs1 := [some (some 2), some (some 45), some (some 46), some (some 48), none, none]) dX11_init_71 rfl vX11_init_11 rfl (by omega) (by omega) hs10 (by decide) kX11_init_40 tyX11 tyX11_ok nmX11 rfl (fun _ h => h) rfl (Nat.le_of_ble_eq_true rfl) ⟨_, rfl⟩ (fun _ => rfl) (fun _ => rfl) hc10 rfl (fun ω11 hn11 hs11 ha11 hc11 => ?_)
  rw [hn10] at hn11
  have hA11 : ∀ j, j < ω.1 → ω11.2.2 j = ω.2.2 j := fun j hj => (congrFun ha11 j).trans (hA10 j hj)
  clear ha11 hA10 hs10 hn10 hc10
  refine ri_aload_n 0 dX11_init_74 rfl rfl ?_
  refine ri_iconst (v := 0) dX11_init_75 rfl (by decide) ?_
  refine ri_putI (C0 := RX11) (T := TX11) (N := 6) (j := 4) dX11_init_76 rfl vX11_init_11 rfl (by omega) (by rw [hs11, va_up_self]) (by decide) kX11_init_44 tyX11 tyX11_ok nmX11 rfl rfl rfl rfl ?_
  have hd11 := hc11.same (μ' := (rj_pi (mX9_init (rj_z (mX2_init (rj_z (rj_z (mX5_init (rj_z μ 1) 1) 44) 45)) 47)) 0 4 0)) rfl
  refine ri_aload_n 0 dX11_init_79 rfl rfl ?_
  refine ri_iconst (v := 0) dX11_init_80 rfl (by decide) ?_
  refine ri_putI (C0 := RX11) (T := TX11) (N := 6) (j := 5) dX11_init_81 rfl vX11_init_11 rfl (by omega) (by rw [hs11, va_up_self]) (by decide) kX11_init_48 tyX11 tyX11_ok nmX11 rfl rfl rfl rfl ?_
  have hd11 := hd11.same (μ' := (rj_pi (rj_pi (mX9_init (rj_z (mX2_init (rj_z (rj_z (mX5_init (rj_z μ 1) 1) 44) 45)) 47)) 0 4 0) 0 5 0)) rfl
  have hsF : ω11.2.1 = sf := hs11.trans (va_up_id ((hb 0 (by omega) (by omega)).trans ly_0))
  refine rj_RI.of ?_
  refine rj_iconst (v := 0) dX11_init_84 rfl (by decide) ?_
  refine rj_istore_n (l' := [(1, .int 0), (0, .ref (ω11.2.2 0))]) dX11_init_85 rfl (rj_bl rfl) rfl ?_
  refine rj_sub (l' := [(0, .ref (ω11.2.2 0)), (1, .int (nI 0))]) [1, 0] rfl ?_
  exact lX11_init_86 (u0 := 168) 8 0 rfl ω11 (rj_pi (rj_pi (mX9_init (rj_z (mX2_init (rj_z (rj_z (mX5_init (rj_z μ 1) 1) 44) 45)) 47)) 0 4 0) 0 5 0) hn11 (hsF.trans hb0) hd11 168 (Nat.le_of_ble_eq_true rfl) (fun ω' ha hn' hs' hc' => ⟨rfl, fun j hj => (ha j (by omega)).trans (hA11 j hj), hn', hs'.trans hb0.symm, rfl, hc'⟩)

