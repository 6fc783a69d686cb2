set_option maxHeartbeats 4000000 in
set_option maxRecDepth 100000 in
theorem lc_56 {g : rj_G} {hh : List (Nat × Nat × Nat × Nat)} {b L n u i : Nat} {xs : Nat → Int32} {ω : rj_W} {μ : rj_M} (hω : rj_ok ω) (hL : L ≤ 3072) (hi : i + 6 ≤ L) (hn : n ≤ 600) (hu : u ≤ 500000) (I : zi_I n μ μ) (K : rl_K g hh b L xs n u ω i) : rl_R g hh b L xs u ω μ (ll b ω.2.2 i) 3568 [] := by
  have op := fun (c r : rj_M) (h : zi_I n c r) => zu_checksum (c := c) (r := r) (by omega) h
  obtain ⟨hI1, hI2, he⟩ := zl_B (n := n) (μ := μ) (M := fun c => c) (R := fun r => mX12_checksum r) (Fv := fun c => fX11_checksum c ) (Bv := fun r => fX12_checksum r) (fun c r h => ⟨(op c r h).1, (op c r h).2.2⟩) I
  refine rj_aload_n 1 dL_law_3568 rfl rfl ?_
  refine rl_callV (av := []) (rest := []) (sX11_checksum (g := g) (ω := ω) hω μ ) lw_k_X11_checksum (rj_lt hω (k := 0) rfl) (rj_sh hω ly_0) rfl rfl hVX11_checksum ⟨Nat.le_of_ble_eq_true rfl, Nat.le_of_ble_eq_true rfl⟩ rfl rfl (Nat.le_of_ble_eq_true rfl) dL_law_3569 rfl (by omega) ?_
  refine rj_aload_n 2 dL_law_3572 rfl rfl ?_
  refine rl_callV (av := []) (rest := [.long (fX11_checksum μ)]) (sX12_checksum (g := g) (ω := ω) hω μ ) lw_k_X12_checksum (rj_lt hω (k := 395) rfl) (rj_sh hω ly_395) rfl rfl hVX12_checksum ⟨Nat.le_of_ble_eq_true rfl, Nat.le_of_ble_eq_true rfl⟩ rfl rfl (Nat.le_of_ble_eq_true rfl) dL_law_3573 rfl (by omega) ?_
  refine rj_lcmp dL_law_3576 rfl ?_
  have he : fX11_checksum μ = fX12_checksum μ := he
  rw [he, lg_self]
  exact rj_if_eq dL_law_3577 rfl rfl (fun _ => (K _ ω _ (by omega) hω (fun _ _ => rfl) hI2)) (fun h' => absurd rfl h')

set_option maxHeartbeats 4000000 in
set_option maxRecDepth 100000 in
theorem lc_57 {g : rj_G} {hh : List (Nat × Nat × Nat × Nat)} {b L n u i : Nat} {xs : Nat → Int32} {ω : rj_W} {μ : rj_M} (hω : rj_ok ω) (hL : L ≤ 3072) (hi : i + 6 ≤ L) (hn : n ≤ 600) (hu : u ≤ 500000) (I : zi_I n μ μ) (K : rl_K g hh b L xs n u ω i) : rl_R g hh b L xs u ω μ (ll b ω.2.2 i) 3582 [] := by
  have op := fun (c r : rj_M) (h : zi_I n c r) => zu_errors (c := c) (r := r) (kN := ω.1) (by omega) hω.1 h
  obtain ⟨hI1, hI2, he⟩ := zl_B (n := n) (μ := μ) (M := fun c => mX11_errors c) (R := fun r => mX12_errors r ω.1) (Fv := fun c => fX11_errors c ) (Bv := fun r => fX12_errors r ω.1) (fun c r h => ⟨(op c r h).1, (op c r h).2.2.1⟩) I
  have hq1 := (op μ μ I).2.2.2.1
  have hq2 := (op μ _ hI1).2.2.2.2
  refine rj_aload_n 1 dL_law_3582 rfl rfl ?_
  refine rl_callV (av := []) (rest := []) (sX11_errors (g := g) (ω := ω) hω μ  hq1) lw_k_X11_errors (rj_lt hω (k := 0) rfl) (rj_sh hω ly_0) rfl rfl hVX11_errors ⟨Nat.le_of_ble_eq_true rfl, Nat.le_of_ble_eq_true rfl⟩ rfl rfl (Nat.le_of_ble_eq_true rfl) dL_law_3583 rfl (by omega) ?_
  refine rj_aload_n 2 dL_law_3586 rfl rfl ?_
  refine rl_callG (av := []) (rest := [.int (fX11_errors μ)]) (sX12_errors (g := g) (ω := ω) hω (mX11_errors μ) ω.1 rfl (zi_cr hI1) hq2) lw_k_X12_errors (rj_lt hω (k := 395) rfl) (rj_sh hω ly_395) rfl rfl hVX12_errors ⟨Nat.le_of_ble_eq_true rfl, Nat.le_of_ble_eq_true rfl⟩ rfl rfl (Nat.le_of_ble_eq_true rfl) dL_law_3587 rfl (by omega) (fun ω' hω' ha => ?_)
  have KK := fun (u1 : Nat) (hu1 : u1 ≤ u + 80) => K u1 ω' _ hu1 hω' ha hI2
  rw [ll_same ha] at KK
  exact rj_icmp_eq dL_law_3590 rfl rfl (fun _ => KK _ (by omega)) (fun h => absurd he h)
