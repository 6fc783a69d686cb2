theorem vX12_lacksT_12 : ∀ w ∈ u_ws RX12 TX12 16, w ∈ wsX12_lacks := by decide +kernel
theorem kX12_lacksT_39 : Cond.fieldLink RX12 39 (TX12 0).1 (TX12 0).2.1 (TX12 0).2.2.1 ∈ wsX12_lacks := by decide +kernel
def mX12_lacksT (μ : rj_M) : rj_M := (rj_pi μ 395 0 0)
set_option maxHeartbeats 40000000 in
set_option maxRecDepth 100000 in
theorem sX12_lacksT {g : rj_G} {ω : rj_W} (hω : rj_ok ω) (μ : rj_M)   : rj_Sp g yX12_lacks wsX12_lacks (rj_rm 1 0) [.ref (ω.2.2 395), .int 1] ω μ (rj_D (.inl (some (.int 0))) ω (mX12_lacksT μ)) := by
  refine rj_of' (cc := cX12_lacks) (nL := 2) (ret := (some .boolean)) (own := RX12) (l0 := [(0, .ref (ω.2.2 395)), (1, .int 1)]) rfl (by decide +kernel) rfl (Nat.le_of_ble_eq_true rfl) rfl ?_
  refine rj_aload_n 0 dX12_lacks_0 rfl rfl ?_
  refine rj_iconst (v := 0) dX12_lacks_1 rfl (by decide) ?_
  refine rj_putI (C0 := RX12) (T := TX12) (N := 16) (j := 0) dX12_lacks_2 rfl vX12_lacksT_12 rfl (rj_lt hω (k := 395) rfl) (rj_sh hω ly_395) (by decide) kX12_lacksT_39 tyX12 tyX12_ok nmX12 rfl rfl rfl rfl ?_
  refine rj_aload_n 0 dX12_lacks_5 rfl rfl ?_
  refine rj_iload_n 1 dX12_lacks_6 rfl rfl ?_
  refine rj_iconst (v := 1) dX12_lacks_7 rfl (by decide) ?_
  refine rj_cV (rest := []) (sX12_noT (g := g) (ω := ω) hω (rj_pi μ 395 0 0) 1   ) gX12_lacks_X12_no (rj_lt hω (k := 395) rfl) (rj_sh hω ly_395) rfl rfl hVX12_no ⟨Nat.le_of_ble_eq_true rfl, Nat.le_of_ble_eq_true rfl⟩ dX12_lacks_8 rfl rfl rfl (Nat.le_of_ble_eq_true rfl) rfl (Nat.le_of_ble_eq_true rfl) rfl ?_
  exact rj_zret dX12_lacks_11 rfl rfl (Nat.le_of_ble_eq_true rfl) (Nat.le_of_ble_eq_true rfl) ⟨rfl, rfl, (by unfold mX12_lacksT; rfl)⟩
theorem vX12_lacksF_12 : ∀ w ∈ u_ws RX12 TX12 16, w ∈ wsX12_lacks := by decide +kernel
theorem kX12_lacksF_39 : Cond.fieldLink RX12 39 (TX12 0).1 (TX12 0).2.1 (TX12 0).2.2.1 ∈ wsX12_lacks := by decide +kernel
def mX12_lacksF (μ : rj_M) : rj_M := (mX12_noF (rj_pi μ 395 0 0) 1)
set_option maxHeartbeats 40000000 in
set_option maxRecDepth 100000 in
theorem sX12_lacksF {g : rj_G} {ω : rj_W} (hω : rj_ok ω) (μ : rj_M)   : rj_Sp g yX12_lacks wsX12_lacks (rj_rm 1 0) [.ref (ω.2.2 395), .int 0] ω μ (rj_D (.inl (some (.int 1))) ω (mX12_lacksF μ)) := by
  refine rj_of' (cc := cX12_lacks) (nL := 2) (ret := (some .boolean)) (own := RX12) (l0 := [(0, .ref (ω.2.2 395)), (1, .int 0)]) rfl (by decide +kernel) rfl (Nat.le_of_ble_eq_true rfl) rfl ?_
  refine rj_aload_n 0 dX12_lacks_0 rfl rfl ?_
  refine rj_iconst (v := 0) dX12_lacks_1 rfl (by decide) ?_
  refine rj_putI (C0 := RX12) (T := TX12) (N := 16) (j := 0) dX12_lacks_2 rfl vX12_lacksF_12 rfl (rj_lt hω (k := 395) rfl) (rj_sh hω ly_395) (by decide) kX12_lacksF_39 tyX12 tyX12_ok nmX12 rfl rfl rfl rfl ?_
  refine rj_aload_n 0 dX12_lacks_5 rfl rfl ?_
  refine rj_iload_n 1 dX12_lacks_6 rfl rfl ?_
  refine rj_iconst (v := 1) dX12_lacks_7 rfl (by decide) ?_
  refine rj_cV (rest := []) (sX12_noF (g := g) (ω := ω) hω (rj_pi μ 395 0 0) 1   ) gX12_lacks_X12_no (rj_lt hω (k := 395) rfl) (rj_sh hω ly_395) rfl rfl hVX12_no ⟨Nat.le_of_ble_eq_true rfl, Nat.le_of_ble_eq_true rfl⟩ dX12_lacks_8 rfl rfl rfl (Nat.le_of_ble_eq_true rfl) rfl (Nat.le_of_ble_eq_true rfl) rfl ?_
  exact rj_zret dX12_lacks_11 rfl rfl (Nat.le_of_ble_eq_true rfl) (Nat.le_of_ble_eq_true rfl) ⟨rfl, rfl, (by unfold mX12_lacksF; rfl)⟩
