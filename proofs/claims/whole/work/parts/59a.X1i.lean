/-- a part of a Moment's cells -/
def rj_bs (ω : rj_W) (b lo hi : Nat) : Prop := ∀ o, lo ≤ o → o < hi → b + o < ω.1 ∧ ω.2.1 (b + o) = rj_lm b o
theorem rj_bs.lt {ω : rj_W} {b lo hi o : Nat} (h : rj_bs ω b lo hi) (h1 : Nat.ble (o + 1) hi = true) (h2 : Nat.ble lo o = true) : b + o < ω.1 := (h o (Nat.le_of_ble_eq_true h2) (Nat.le_of_ble_eq_true h1)).1
theorem rj_bs.sh {ω : rj_W} {b lo hi o : Nat} {s : rj_Sh} (h : rj_bs ω b lo hi) (h1 : Nat.ble (o + 1) hi = true) (e : rj_lm b o = s) (h2 : Nat.ble lo o = true) : ω.2.1 (b + o) = s := (h o (Nat.le_of_ble_eq_true h2) (Nat.le_of_ble_eq_true h1)).2.trans e
theorem rf_fo {σ α : Type} {f : Nat → σ → σ} (p : σ → α) (h : ∀ j s, p (f j s) = p s) : ∀ (r j : Nat) (s : σ), p (rj_fo f r j s) = p s
  | 0, _, _ => rfl
  | r + 1, j, s => by rw [rj_fo_s, rf_fo p h r (j + 1) (f j s), h j s]
theorem rf_fillRow (μ : rj_M) (k n : Nat) (v : Int32) : (mX11_fillRow μ k n v).2.2.2 = μ.2.2.2 := by
  unfold mX11_fillRow
  exact rf_fo (f := bX11_fillRow_2 μ k n v) (fun s : rj_M => s.2.2.2) (fun j s => rfl) _ _ _
theorem wX1_init_1_0 : Cond.methodLink RX1 1 Lib.objectInit ∈ wsX1_init := by decide +kernel
theorem wX1_init_1_1 : Cond.instanceMethod Lib.objectInit ∈ wsX1_init := by decide +kernel
theorem wX1_init_1_2 : Cond.code Lib.objectInit ⟨#[0xb1]⟩ 1 none ∈ wsX1_init := by decide +kernel
theorem kX1_init_7 : Cond.fieldLink RX1 7 (TX1 0).1 (TX1 0).2.1 (TX1 0).2.2.1 ∈ wsX1_init := by decide +kernel
theorem vX1_init_1 : ∀ w ∈ u_ws RX1 TX1 3, w ∈ wsX1_init := by decide +kernel
theorem kX1_init_13 : Cond.fieldLink RX1 13 (TX1 1).1 (TX1 1).2.1 (TX1 1).2.2.1 ∈ wsX1_init := by decide +kernel
theorem kX1_init_16 : Cond.fieldLink RX1 16 (TX1 2).1 (TX1 2).2.1 (TX1 2).2.2.1 ∈ wsX1_init := by decide +kernel
def mX1_init (μ : rj_M) (b : Nat) : rj_M := (rj_pi (rj_pi (rj_pi μ (b + 1) 0 2026) (b + 1) 1 6) (b + 1) 2 1)
set_option maxHeartbeats 40000000 in
set_option maxRecDepth 100000 in
theorem sX1_init {g : rj_G} {ω : rj_W} (μ : rj_M) (b : Nat) (sf : Nat → rj_Sh) (hn : ω.1 = b + 1 + 1) (hs : ω.2.1 = va_up sf (b + 1) (.inr (1, [none, none, none]))) (hc : rj_cl ω μ) (hb : ∀ x, 1 ≤ x → x < 2 → sf (b + x) = rj_lm b x) : rj_Sp g yX1_init wsX1_init (rj_rm 4 0) [.ref (ω.2.2 (b + 1))] ω μ (rj_DI ω (b + 2) sf (mX1_init μ b)) := by
  refine ri_of (cc := cX1_init) (nL := 1) (ret := none) (own := RX1) (l0 := [(0, .ref (ω.2.2 (b + 1)))]) rfl (by decide +kernel) rfl rfl (Nat.le_of_ble_eq_true rfl) rfl ?_
  replace hn : ω.1 = b + 2 := by omega
  refine ri_aload_n 0 dX1_init_0 rfl rfl ?_
  refine ri_obj dX1_init_1 rfl wX1_init_1_0 wX1_init_1_1 wX1_init_1_2 (Nat.le_of_ble_eq_true rfl) (Nat.le_of_ble_eq_true rfl) (Nat.le_of_ble_eq_true rfl) ?_
  refine ri_aload_n 0 dX1_init_4 rfl rfl ?_
  refine ri_sipush (v := 2026) dX1_init_5 rfl (by decide) ?_
  refine ri_putI (C0 := RX1) (T := TX1) (N := 3) (j := 0) dX1_init_8 rfl vX1_init_1 rfl (by omega) (by rw [hs, va_up_self]) (by decide) kX1_init_7 tyX1 tyX1_ok nmX1 rfl rfl rfl rfl ?_
  have hd0 := hc.same (μ' := (rj_pi μ (b + 1) 0 2026)) rfl
  refine ri_aload_n 0 dX1_init_11 rfl rfl ?_
  refine ri_bipush (v := 6) dX1_init_12 rfl (by decide) ?_
  refine ri_putI (C0 := RX1) (T := TX1) (N := 3) (j := 1) dX1_init_14 rfl vX1_init_1 rfl (by omega) (by rw [hs, va_up_self]) (by decide) kX1_init_13 tyX1 tyX1_ok nmX1 rfl rfl rfl rfl ?_
  have hd0 := hd0.same (μ' := (rj_pi (rj_pi μ (b + 1) 0 2026) (b + 1) 1 6)) rfl
  refine ri_aload_n 0 dX1_init_17 rfl rfl ?_
  refine ri_iconst (v := 1) dX1_init_18 rfl (by decide) ?_
  refine ri_putI (C0 := RX1) (T := TX1) (N := 3) (j := 2) dX1_init_19 rfl vX1_init_1 rfl (by omega) (by rw [hs, va_up_self]) (by decide) kX1_init_16 tyX1 tyX1_ok nmX1 rfl rfl rfl rfl ?_
  have hd0 := hd0.same (μ' := (rj_pi (rj_pi (rj_pi μ (b + 1) 0 2026) (b + 1) 1 6) (b + 1) 2 1)) rfl
  have hsF : ω.2.1 = sf := hs.trans (va_up_id ((hb 1 (by omega) (by omega)).trans (lm_1 b)))
  exact rj_RI.of (rj_vret dX1_init_22 rfl (Nat.le_of_ble_eq_true rfl) (Nat.le_of_ble_eq_true rfl) ⟨rfl, (fun j hj => rfl), hn, hsF, rfl, hd0⟩)
