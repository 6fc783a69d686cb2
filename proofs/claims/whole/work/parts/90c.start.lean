/-! THE LAW FROM ITS ENTRY TO ITS LOOP -/
theorem zL11 : yX11_init.cls ≠ "java/lang/invoke/MethodHandle" ∧ yX11_init.cls ≠ "java/lang/invoke/VarHandle" ∧ (parseMethodDescriptor yX11_init.desc).map (fun d => d.parameters.length) = some 0 := by decide +kernel
theorem zL12 : yX12_init.cls ≠ "java/lang/invoke/MethodHandle" ∧ yX12_init.cls ≠ "java/lang/invoke/VarHandle" ∧ (parseMethodDescriptor yX12_init.desc).map (fun d => d.parameters.length) = some 0 := by decide +kernel
section rlBegin
variable {nm : Method → Prop} {g : rj_G} {hh : List (Nat × Nat × Nat × Nat)} {F : rj_F} {u : Nat} {ω : rj_W} {μ : rj_M} {pc q : Nat} {L : (Nat → Nat) → List (Nat × Value)} {ST : (Nat → Nat) → List Value}
/-- a constructor is called by the law -/
theorem rl_callI {y : MethodName} {bytes : ByteArray} {maxL idx n k d' c' : Nat} {wc wc' : List Cond} {av : List Value} {P1 : rj_P} (hM : rj_Sp g y wc (rj_rm d' c') (.ref (ω.2.2 k) :: av) ω μ P1) (hG : GoodIn lw_tbl wc) (hw : wc = Cond.code y bytes maxL none :: wc') (hini : Cond.initialized y.cls ∈ lw_tbl) (hlk : Cond.methodLink RL idx y ∈ lw_tbl) (hin : Cond.instanceMethod y ∈ lw_tbl) (hy1 : y.name = "<init>")
    (hdd : y.cls ≠ "java/lang/invoke/MethodHandle" ∧ y.cls ≠ "java/lang/invoke/VarHandle" ∧ (parseMethodDescriptor y.desc).map (fun d => d.parameters.length) = some n) (hR : d' + 1 ≤ 2048 ∧ 8 + (maxL + 11) + 64 * d' ≤ 84000) (hd : decode cL_law pc = .ok (.invokespecial idx, 3)) (hq : pc + 3 = q) (hn : av.length = n) (hW : ((ST ω.2.2).map fun v => v.category).sum ≤ 8) (hf : u + c' ≤ 600000)
    (hl : ∀ ad : Nat → Nat, (∀ j, j < ω.1 → ad j = ω.2.2 j) → L ad = L ω.2.2) (hst : ∀ ad : Nat → Nat, (∀ j, j < ω.1 → ad j = ω.2.2 j) → ST ad = ST ω.2.2)
    (hP : ∀ o ω1 μ1, P1 o ω1 μ1 → o = .inl none ∧ ∀ j, j < ω.1 → ω1.2.2 j = ω.2.2 j) (kk : ∀ ω1 μ1, P1 (.inl none) ω1 μ1 → rj_RI nm g RL cL_law 10 ret lw_tbl hh room_1 F (u + c') ω1 μ1 (L ω1.2.2) q (ST ω1.2.2)) : rj_RI nm g RL cL_law 10 ret lw_tbl hh room_1 F u ω μ (L ω.2.2) pc (av.reverse ++ .ref (ω.2.2 k) :: ST ω.2.2) := by
  subst hq
  intro p e s m args below meth cd H locs A ls C N0 S h
  refine rj_behind (vx_runI (As := av) (rest := ST ω.2.2) ⟨C.1, C.2.1, C.2.2.2.1, C.2.2.2.2.1, C.2.2.2.2.2.1⟩ (hM C.2.2.2.2.2.2.2.1 H.size) (cwI n C.2.2.2.2.2.1 hG hw rfl rfl (C.2.2.2.2.2.1 _ hini) (C.2.2.2.2.2.1 _ hlk) (C.2.2.2.2.2.1 _ hin) hy1 hdd hR) ⟨rj_blind, fun U hU hWm => rj_pre S hU hWm⟩ rfl hn h.1 rfl (lv_room hW) hd ⟨by show u + c' ≤ 601024; omega, by show 8 * u + 8 * c' ≤ 7293034; omega⟩) rfl S ?_ ?_
  · intro E ω' μ' H1 locs1 ce q9 h1
    exact absurd (hP _ _ _ h1).1 (fun z => by cases z)
  · intro v ω' μ' H1 locs1 h1 hS1
    have h2 := hP _ _ _ h1
    obtain ⟨h3, h4⟩ := h2
    cases h3
    have hx := kk ω' μ' h1 p e s m args below meth cd H1 locs1 A ls C N0 hS1 (by rw [hl _ h4]; exact h)
    rw [hst _ h4] at hx
    exact hx
end rlBegin
set_option maxHeartbeats 4000000 in
set_option maxRecDepth 100000 in
theorem rl_begin {g : rj_G} {hh : List (Nat × Nat × Nat × Nat)} {b L : Nat} {xs : Nat → Int32} {ω : rj_W} {μ : rj_M} (hL : L ≤ 3072) (hn : ω.1 = 0) (hs : ω.2.1 = rj_lay) (hcr : rj_cr μ) : rl_R g hh b L xs 0 ω μ [(0, .ref b)] 0 [] := by
  have hcl : rj_cl ω μ := fun k hk => absurd hk (by omega)
  refine rj_RI.R (ri_newO (L := fun _ => [(0, .ref b)]) (ST := fun _ => []) (nl := [some (some 0), some (some 0), some (some 0), some (some 0), none, none]) (ci := 11) (K := 1) dL_law_0 rfl lw_u_wsX110 rfl tyX11 tyX11_ok lz_cl11 lz_insRX11 lz_ini11 (by simp) (by decide +kernel) (Nat.le_of_ble_eq_true rfl) (Nat.le_of_ble_eq_true rfl) (Nat.le_of_ble_eq_true rfl) (Nat.le_of_ble_eq_true rfl) hcl (fun _ _ => rfl) (fun _ _ => rfl) (fun ω1 hn1 hs1 ha1 hc1 => ?_))
  rw [hn] at hn1 hs1 hc1 ⊢
  rw [hs] at hs1
  refine ri_dup dL_law_3 rfl rfl ?_
  refine rl_callI (L := fun _ => [(0, .ref b)]) (ST := fun ad => [.ref (ad 0)]) (av := []) (k := 0) (sX11_init (g := g) (ω := ω1) (rj_z μ 0) rj_lay rfl hn1 hs1 hc1 (fun _ _ _ => rfl)) lw_g_wsX11_init rfl lz_ini11 lz_ml11 lz_im11 rfl zL11 ⟨Nat.le_of_ble_eq_true rfl, Nat.le_of_ble_eq_true rfl⟩ dL_law_4 rfl rfl (Nat.le_of_ble_eq_true rfl) (Nat.le_of_ble_eq_true rfl) (fun _ _ => rfl) (fun ad h => by show _ = _; simp only [h 0 (by omega)]) rj_DI.p ?_
  intro ω2 μ2 h2
  obtain ⟨-, ha2, hn2, hs2, e2, hc2⟩ := h2
  subst e2
  refine rj_RI.of (rj_astore_n (l' := [(1, .ref (ω2.2.2 0)), (0, .ref b)]) dL_law_7 rfl (Nat.le_of_ble_eq_true rfl) rfl ?_)
  refine rj_RI.R (ri_newO (L := fun ad => [(1, .ref (ad 0)), (0, .ref b)]) (ST := fun _ => []) (nl := [none, some (some 0), some (some 0), none, none, none, some (some 0), some (some 0), none, some (some 0), some (some 0), none, some (some 0), some (some 0), some (some 0), none]) (ci := 12) (K := 2) dL_law_8 rfl lw_u_wsX120 rfl tyX12 tyX12_ok lz_cl12 lz_insRX12 lz_ini12 (by simp) (by decide +kernel) (Nat.le_of_ble_eq_true rfl) (Nat.le_of_ble_eq_true rfl) (Nat.le_of_ble_eq_true rfl) (Nat.le_of_ble_eq_true rfl) hc2 (fun ad h => by show _ = _; simp only [h 0 (by omega)]) (fun _ _ => rfl) (fun ω3 hn3 hs3 ha3 hc3 => ?_))
  rw [hn2] at hn3 hs3 hc3 ⊢
  rw [hs2] at hs3
  refine ri_dup dL_law_11 rfl rfl ?_
  refine rl_callI (L := fun ad => [(1, .ref (ad 0)), (0, .ref b)]) (ST := fun ad => [.ref (ad 395)]) (av := []) (k := 395) (sX12_init (g := g) (ω := ω3) (rj_z (mX11_init (rj_z μ 0)) 395) hn3 hs3 hc3) lw_g_wsX12_init rfl lz_ini12 lz_ml12 lz_im12 rfl zL12 ⟨Nat.le_of_ble_eq_true rfl, Nat.le_of_ble_eq_true rfl⟩ dL_law_12 rfl rfl (Nat.le_of_ble_eq_true rfl) (Nat.le_of_ble_eq_true rfl) (fun ad h => by show _ = _; simp only [h 0 (by omega)]) (fun ad h => by show _ = _; simp only [h 395 (by omega)]) rj_DI.p ?_
  intro ω4 μ4 h4
  obtain ⟨-, ha4, hn4, hs4, e4, hc4⟩ := h4
  subst e4
  refine rj_RI.of (rj_astore_n (l' := [(2, .ref (ω4.2.2 395)), (1, .ref (ω4.2.2 0)), (0, .ref b)]) dL_law_15 rfl (Nat.le_of_ble_eq_true rfl) rfl ?_)
  refine rj_iconst (v := 1) dL_law_16 rfl rfl ?_
  refine rj_RI.R (ri_newA (L := fun ad => [(2, .ref (ad 395)), (1, .ref (ad 0)), (0, .ref b)]) (ST := fun _ => []) (kd := 2) (N := 1) (K := 1) dL_law_17 rfl lz_ac_long rfl (by decide) rfl (fun ad cA => by simp only [rj_av, rj_z, va_up_self]; rfl) (Nat.le_of_ble_eq_true rfl) (Nat.le_of_ble_eq_true rfl) (Nat.le_of_ble_eq_true rfl) (Nat.le_of_ble_eq_true rfl) (Nat.le_of_ble_eq_true rfl) hc4 (by rw [hn4, hs4]; exact ly_438) (fun ad h => by show _ = _; simp only [h 0 (by omega), h 395 (by omega)]) (fun _ _ => rfl) (fun ω5 hn5 hs5 ha5 hc5 => ?_))
  rw [hn4] at hn5 hc5 ⊢
  rw [hs4] at hs5
  refine rj_RI.of (rj_astore_n (l' := [(3, .ref (ω5.2.2 438)), (2, .ref (ω5.2.2 395)), (1, .ref (ω5.2.2 0)), (0, .ref b)]) dL_law_19 rfl (Nat.le_of_ble_eq_true rfl) rfl ?_)
  refine rj_iconst (v := 1) dL_law_20 rfl rfl ?_
  refine rj_RI.R (ri_newA (L := fun ad => [(3, .ref (ad 438)), (2, .ref (ad 395)), (1, .ref (ad 0)), (0, .ref b)]) (ST := fun _ => []) (kd := 3) (N := 1) (K := 1) dL_law_21 rfl lz_ac_double rfl (by decide) rfl (fun ad cA => by simp only [rj_av, rj_z, va_up_self]; rfl) (Nat.le_of_ble_eq_true rfl) (Nat.le_of_ble_eq_true rfl) (Nat.le_of_ble_eq_true rfl) (Nat.le_of_ble_eq_true rfl) (Nat.le_of_ble_eq_true rfl) hc5 (by rw [hn5, hs5]; exact ly_439) (fun ad h => by show _ = _; simp only [h 0 (by omega), h 395 (by omega), h 438 (by omega)]) (fun _ _ => rfl) (fun ω6 hn6 hs6 ha6 hc6 => ?_))
  rw [hn5] at hn6 hc6 ⊢
  rw [hs5] at hs6
  refine rj_RI.of (rj_astore (l' := [(4, .ref (ω6.2.2 439)), (3, .ref (ω6.2.2 438)), (2, .ref (ω6.2.2 395)), (1, .ref (ω6.2.2 0)), (0, .ref b)]) dL_law_23 rfl (Nat.le_of_ble_eq_true rfl) rfl ?_)
  refine rj_iconst (v := 0) dL_law_25 rfl rfl ?_
  refine rj_istore (l' := [(5, .int (nI 0)), (4, .ref (ω6.2.2 439)), (3, .ref (ω6.2.2 438)), (2, .ref (ω6.2.2 395)), (1, .ref (ω6.2.2 0)), (0, .ref b)]) dL_law_26 rfl (Nat.le_of_ble_eq_true rfl) rfl ?_
  refine rj_sub (l' := ll b ω6.2.2 (6 * 0)) [5, 4, 3, 2, 1, 0] rfl ?_
  have hI : zi_I 0 (zy_M (rj_z μ 0)) (zy_M (rj_z μ 0)) := zi_begin0 (zy_cz hcr)
  exact rl_loop hL 512 0 _ ω6 (zy_M (rj_z μ 0)) (by omega) (by decide) (by decide) ⟨by omega, hs6⟩ hI
