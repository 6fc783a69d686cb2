/-! TICKETS, BALANCES -/
theorem zn_o32 (x : Nat) : nI x = Int32.ofInt x := (Int32.ofInt_eq_ofNat).symm
theorem zn_o64 (x : Nat) : lN x = Int64.ofInt x := (Int64.ofInt_eq_ofNat).symm
theorem zn_32s {a : Int} {x : Nat} : Int32.ofInt a - nI x = Int32.ofInt (a - x) := by rw [zn_o32, Int32.ofInt_sub]
theorem zn_32a {a : Int} {x : Nat} : Int32.ofInt a + nI x = Int32.ofInt (a + x) := by rw [zn_o32, Int32.ofInt_add]
theorem zn_64s {a : Int} {x : Nat} (h : x < 2 ^ 31) : Int64.ofInt a - (nI x).toInt64 = Int64.ofInt (a - x) := by rw [nI_l h, zn_o64, Int64.ofInt_sub]
theorem zn_64a {a : Int} {x : Nat} (h : x < 2 ^ 31) : Int64.ofInt a + (nI x).toInt64 = Int64.ofInt (a + x) := by rw [nI_l h, zn_o64, Int64.ofInt_add]
def zB_pay (B : Nat → Int) (f t : Nat) (x : Int) : Nat → Int := fun k => if k = t then B k + x else if k = f then B k - x else B k
theorem zB_t {B : Nat → Int} {f t : Nat} {x : Int} : zB_pay B f t x t = B t + x := if_pos rfl
theorem zB_f {B : Nat → Int} {f t : Nat} {x : Int} (h : f ≠ t) : zB_pay B f t x f = B f - x := by
  unfold zB_pay
  rw [if_neg h, if_pos rfl]
theorem zB_o {B : Nat → Int} {f t k : Nat} {x : Int} (h1 : k ≠ f) (h2 : k ≠ t) : zB_pay B f t x k = B k := by
  unfold zB_pay
  rw [if_neg h2, if_neg h1]
section zqPurse
variable {r c : rj_M} {S : Nat → Nat} {B : Nat → Int}
theorem zq_pays {f t x : Nat} (h : zr_row (r.1 396) S B) (hf : f < 25) (ht : t < 25) (hft : f ≠ t) : zr_row ((mX12_pays r (nI f) (nI t) (nI x)).1 396) S (zB_pay B f t x) ∧ (∀ k, k ≠ 396 → (mX12_pays r (nI f) (nI t) (nI x)).1 k = r.1 k) ∧ (mX12_pays r (nI f) (nI t) (nI x)).2 = r.2 := by
  have e1 : ∀ a, a < 25 → (500 + nI a).toNatClampNeg = 500 + a := fun a ha => pk_cl _ (by rw [show (500 : Int32) = nI 500 from rfl, nI_add]) (by omega)
  unfold mX12_pays
  rw [e1 f hf, e1 t ht, zm_pi_ne2 (show 500 + t ≠ 500 + f by omega), h.2.2.1 f hf, h.2.2.1 t ht, zn_32s, zn_32a]
  refine ⟨⟨fun k hk => ?_, fun k h1 h2 => ?_, fun k hk => ?_, fun k h1 h2 => ?_⟩, fun k hk => by rw [zm_pi_ne hk, zm_pi_ne hk], rfl⟩
  · rw [zm_pi_ne2 (by omega), zm_pi_ne2 (by omega)]
    exact h.1 k hk
  · rw [zm_pi_ne2 (by omega), zm_pi_ne2 (by omega)]
    exact h.2.1 k h1 h2
  · by_cases e : k = t
    · rw [e, zm_pi_eq, zB_t]
    · by_cases e2 : k = f
      · rw [e2, zm_pi_ne2 (by omega), zm_pi_eq, zB_f hft]
      · rw [zm_pi_ne2 (by omega), zm_pi_ne2 (by omega), zB_o e2 e]
        exact h.2.2.1 k hk
  · rw [zm_pi_ne2 (by omega), zm_pi_ne2 (by omega)]
    exact h.2.2.2 k h1 h2
/-- a ticket's place, a thing's place -/
theorem zr_pt {p x : Nat} {v : Int32} (h : zr_row (r.1 396) S B) (hp : p < 48) (hv : v = nI x - 1) : zr_row ((rj_pi r 396 (452 + p) v).1 396) (zg_up S (452 + p) x) B := by
  subst hv
  refine ⟨fun k hk => ?_, fun k h1 h2 => ?_, fun k hk => ?_, fun k h1 h2 => ?_⟩
  · rw [zm_pi_ne2 (by omega), zg_up_ne (by omega)]
    exact h.1 k hk
  · by_cases e : k = 452 + p
    · rw [e, zm_pi_eq, zg_up_eq]
    · rw [zm_pi_ne2 e, zg_up_ne e]
      exact h.2.1 k h1 h2
  · rw [zm_pi_ne2 (by omega)]
    exact h.2.2.1 k hk
  · rw [zm_pi_ne2 (by omega), zg_up_ne (by omega)]
    exact h.2.2.2 k h1 h2
theorem zr_th {p x : Nat} {v : Int32} (h : zr_row (r.1 396) S B) (hp : p < 100) (hv : v = nI x - 1) : zr_row ((rj_pi r 396 (525 + p) v).1 396) (zg_up S (525 + p) x) B := by
  subst hv
  refine ⟨fun k hk => ?_, fun k h1 h2 => ?_, fun k hk => ?_, fun k h1 h2 => ?_⟩
  · rw [zm_pi_ne2 (by omega), zg_up_ne (by omega)]
    exact h.1 k hk
  · rw [zm_pi_ne2 (by omega), zg_up_ne (by omega)]
    exact h.2.1 k h1 h2
  · rw [zm_pi_ne2 (by omega)]
    exact h.2.2.1 k hk
  · by_cases e : k = 525 + p
    · rw [e, zm_pi_eq, zg_up_eq]
    · rw [zm_pi_ne2 e, zg_up_ne e]
      exact h.2.2.2 k h1 h2
theorem zr_pi2 {x v : Nat} {w : Int32} (h : zr_row (r.1 396) S B) (hx : x < 452) (hw : w = nI v) : zr_row ((rj_pi r 396 x w).1 396) (zg_up S x v) B := by
  subst hw
  exact zr_pi h hx (fun y => rfl)
theorem zq_tk {v d : Nat} (hv : v < 12) (hd : d < 4) : ((452 + (4 * nI v)) + nI d).toNatClampNeg = 452 + (4 * v + d) := pk_cl _ (by rw [show (452 : Int32) = nI 452 from rfl, show (4 : Int32) = nI 4 from rfl, pk_mul, nI_add, nI_add]; exact congrArg nI (by omega)) (by omega)
theorem zc_tk {v d : Nat} (hv : v < 12) (hd : d < 4) : ((nI v * 4) + nI d).toNatClampNeg = 4 * v + d := pk_cl _ (by rw [show (4 : Int32) = nI 4 from rfl, pk_mul, nI_add, Nat.mul_comm v 4]) (by omega)
theorem zc_isTicket {v d : Nat} (hv : v < 12) (hd : d < 4) : fX8_isTicket c (nI v) (nI d) = 1 := by
  unfold fX8_isTicket
  rw [if_neg (nI_pos (by omega)), if_neg (show ¬ 12 ≤ nI v from nI_ge (b := 12) hv (by decide)), if_neg (nI_pos (by omega)), if_neg (show ¬ 4 ≤ nI d from nI_ge (b := 4) hd (by decide))]
theorem zc_hasTicket {v d : Nat} (h : zr_purs c 1 S B) (ok : ∀ p, p < 48 → S (452 + p) ≤ 501) (hv : v < 12) (hd : d < 4) : fX8_hasTicket c (nI v) (nI d) = if S (452 + (4 * v + d)) = 0 then 0 else 1 := by
  have h1 : c.1 41 (4 * v + d) = nI (S (452 + (4 * v + d))) - 1 := h.2.1 (4 * v + d) (by omega)
  have h2 := ok (4 * v + d) (by omega)
  unfold fX8_hasTicket
  rw [zc_isTicket hv hd, if_neg (by decide), zc_tk hv hd, h1]
  by_cases c1 : S (452 + (4 * v + d)) = 0
  · rw [c1, if_pos (show (0 : Nat) = 0 from rfl)]
    exact if_pos (by decide)
  · rw [zb_pred (by omega), if_neg (fun z => by
      have h3 : ¬ nI (S (452 + (4 * v + d)) - 1) < 0 := nI_pos (by omega)
      rw [z] at h3
      exact absurd (by decide) h3), if_neg c1]
def zk_coins (P g : Nat) : Nat := if g < 6 then 0 else if g < 14 then (P + 1) / 2 else if g < 65 then P else (8 * P + 5) / 10
theorem zk_coins_le {P g : Nat} (h : P ≤ 500) : zk_coins P g ≤ 500 := by
  unfold zk_coins
  split
  · omega
  · split
    · omega
    · split <;> omega
theorem zc_coins {d g : Nat} (h : zr_purs c 1 S B) (ok : ∀ d, d < 4 → S (448 + d) ≤ 500) (hd : d < 4) (hg : g ≤ 120) : fX8_coinsFor c (nI d) (nI g) = nI (zk_coins (S (448 + d)) g) := by
  have h1 : c.1 40 d = nI (S (448 + d)) := h.1 d hd
  have h2 := ok d hd
  unfold fX8_coinsFor zk_coins
  rw [nI_clamp (n := d) (by omega), h1]
  by_cases c1 : g < 6
  · rw [if_pos (show nI g < 6 from nI_lt (b := 6) c1 (by decide)), if_pos c1]
    rfl
  · rw [if_neg (show ¬ nI g < 6 from nI_nlt (b := 6) (by omega) (by omega)), if_neg c1, if_neg (nI_pos (by omega)), if_pos (show nI d < 4 from nI_lt (b := 4) hd (by decide))]
    by_cases c2 : g < 14
    · rw [if_neg (show ¬ 13 < nI g from nI_nlt (a := 13) (by omega) (by decide)), if_pos c2, nI_1]
      exact pk_div (by omega) (by decide) (by decide)
    · rw [if_pos (show 13 < nI g from nI_lt (a := 13) (by omega) (by omega)), if_neg c2]
      by_cases c3 : g < 65
      · rw [if_neg (show ¬ 65 ≤ nI g from nI_ge (b := 65) c3 (by decide)), if_pos c3]
      · rw [if_pos (show 65 ≤ nI g from nI_le (a := 65) (by omega) (by omega)), if_neg c3, show (4 : Int32) = nI 4 from rfl, show (2 : Int32) = nI 2 from rfl, show (5 : Int32) = nI 5 from rfl, pk_mul, nI_add, pk_div (by omega) (by decide) (by decide)]
        exact congrArg nI (by omega)
/-- the class's rows behind a payment of a visitor to the house -/
theorem zc_sell {v d x : Nat} {a2 : Int32} (h : zr_purs c 1 S B) (hv : v < 12) (hd : d < 4) (hx : x ≤ 500) (hc : fX8_coinsFor c (nI d) a2 = nI x) : zr_purs (mX8_sell c (nI v) (nI d) a2) 1 (zg_up S (452 + (4 * v + d)) (x + 1)) (zB_pay B (1 + v) 0 x) ∧ fX8_sell c (nI v) (nI d) a2 = nI x ∧ (∀ k, k ≠ 41 → (mX8_sell c (nI v) (nI d) a2).1 k = c.1 k) ∧ (∀ k, k ≠ 39 → k ≠ 42 → (mX8_sell c (nI v) (nI d) a2).2.1 k = c.2.1 k) ∧ (mX8_sell c (nI v) (nI d) a2).2.2 = c.2.2 := by
  have p39 : c.2.1 39 2 = Int64.ofInt (B 0) := h.2.2.1
  have p42 : c.2.1 42 v = Int64.ofInt (B (1 + v)) := h.2.2.2.1 v hv
  unfold mX8_sell fX8_sell
  rw [zc_isTicket hv hd, if_neg (by decide), if_neg (by decide), hc, zc_tk hv hd, nI_clamp (n := v) (by omega), zm_pl, if_neg (show ¬ ((39 : Nat) = 42 ∧ (2 : Nat) = v) by omega)]
  have e1 : (rj_pi c 41 (4 * v + d) (nI x)).2.1 = c.2.1 := rfl
  rw [e1, p39, p42, zn_64s (by omega), zn_64a (by omega)]
  refine ⟨⟨fun e he => ?_, fun p hp => ?_, ?_, fun u hu => ?_, fun m hm => ?_⟩, rfl, fun k hk => zm_pi_ne hk, fun k k1 k2 => ?_, rfl⟩
  · show (rj_pi c 41 (4 * v + d) (nI x)).1 40 e = _
    rw [zm_pi_ne (by decide), zg_up_ne (by omega)]
    exact h.1 e he
  · show (rj_pi c 41 (4 * v + d) (nI x)).1 41 p = _
    by_cases e : p = 4 * v + d
    · rw [e, zm_pi_eq, zg_up_eq, nI_pred]
    · rw [zm_pi_ne2 e, zg_up_ne (by omega)]
      exact h.2.1 p hp
  · show (rj_pl _ 39 2 _).2.1 39 2 = _
    rw [zm_pl, if_pos ⟨rfl, rfl⟩, zB_t]
  · show (rj_pl _ 39 2 _).2.1 42 u = _
    rw [zm_pl, if_neg (by omega), zm_pl]
    by_cases e : u = v
    · rw [if_pos ⟨rfl, e⟩, e, zB_f (by omega)]
    · rw [if_neg (fun z => e z.2), zB_o (by omega) (by omega)]
      exact h.2.2.2.1 u hu
  · show (rj_pl _ 39 2 _).2.1 43 m = _
    rw [zm_pl, if_neg (by omega), zm_pl, if_neg (by omega), zB_o (by omega) (by omega)]
    exact h.2.2.2.2 m hm
  · rw [zm_pl_ne k1, zm_pl_ne k2]
    rfl
theorem zc_takeBack {v d : Nat} (h : zr_purs c 1 S B) (hv : v < 12) (hd : d < 4) (hS : 1 ≤ S (452 + (4 * v + d)) ∧ S (452 + (4 * v + d)) ≤ 501) : zr_purs (mX8_takeBack c (nI v) (nI d)) 1 (zg_up S (452 + (4 * v + d)) 0) (zB_pay B 0 (1 + v) (((S (452 + (4 * v + d)) - 1) * 9 / 10 : Nat))) ∧ fX8_takeBack c (nI v) (nI d) = nI ((S (452 + (4 * v + d)) - 1) * 9 / 10) ∧ (∀ k, k ≠ 41 → (mX8_takeBack c (nI v) (nI d)).1 k = c.1 k) ∧ (∀ k, k ≠ 39 → k ≠ 42 → (mX8_takeBack c (nI v) (nI d)).2.1 k = c.2.1 k) ∧ (mX8_takeBack c (nI v) (nI d)).2.2 = c.2.2 := by
  have p39 : c.2.1 39 2 = Int64.ofInt (B 0) := h.2.2.1
  have p42 : c.2.1 42 v = Int64.ofInt (B (1 + v)) := h.2.2.2.1 v hv
  have h1 : c.1 41 (4 * v + d) = nI (S (452 + (4 * v + d)) - 1) := by
    rw [← zb_pred hS.1]
    exact h.2.1 (4 * v + d) (by omega)
  have hb : (c.1 41 (4 * v + d) * 9) / 10 = nI ((S (452 + (4 * v + d)) - 1) * 9 / 10) := by
    rw [h1, show (9 : Int32) = nI 9 from rfl, show (10 : Int32) = nI 10 from rfl, pk_mul, pk_div (by omega) (by decide) (by decide)]
  generalize hX : (S (452 + (4 * v + d)) - 1) * 9 / 10 = X at hb ⊢
  have hXb : X < 2 ^ 31 := by omega
  unfold mX8_takeBack fX8_takeBack
  rw [zc_isTicket hv hd, if_neg (by decide), if_neg (by decide), zc_tk hv hd, hb, nI_clamp (n := v) (by omega), zm_pl, if_neg (show ¬ ((39 : Nat) = 42 ∧ (2 : Nat) = v) by omega)]
  have e1 : (rj_pi c 41 (4 * v + d) (-1)).2.1 = c.2.1 := rfl
  rw [e1, p39, p42, zn_64s hXb, zn_64a hXb]
  refine ⟨⟨fun e he => ?_, fun p hp => ?_, ?_, fun u hu => ?_, fun m hm => ?_⟩, rfl, fun k hk => zm_pi_ne hk, fun k k1 k2 => ?_, rfl⟩
  · show (rj_pi c 41 (4 * v + d) (-1)).1 40 e = _
    rw [zm_pi_ne (by decide), zg_up_ne (by omega)]
    exact h.1 e he
  · show (rj_pi c 41 (4 * v + d) (-1)).1 41 p = _
    by_cases e : p = 4 * v + d
    · rw [e, zm_pi_eq, zg_up_eq]
      rfl
    · rw [zm_pi_ne2 e, zg_up_ne (by omega)]
      exact h.2.1 p hp
  · show (rj_pl _ 39 2 _).2.1 39 2 = _
    rw [zm_pl, if_pos ⟨rfl, rfl⟩, zB_f (by omega)]
  · show (rj_pl _ 39 2 _).2.1 42 u = _
    rw [zm_pl, if_neg (by omega), zm_pl]
    by_cases e : u = v
    · rw [if_pos ⟨rfl, e⟩, e, zB_t]
    · rw [if_neg (fun z => e z.2), zB_o (by omega) (by omega)]
      exact h.2.2.2.1 u hu
  · show (rj_pl _ 39 2 _).2.1 43 m = _
    rw [zm_pl, if_neg (by omega), zm_pl, if_neg (by omega), zB_o (by omega) (by omega)]
    exact h.2.2.2.2 m hm
  · rw [zm_pl_ne k1, zm_pl_ne k2]
    rfl
theorem zc_handOver {v o d : Nat} (h : zr_purs c 1 S B) (hv : v < 12) (ho : o < 12) (hvo : v ≠ o) (hd : d < 4) (hS : 1 ≤ S (452 + (4 * v + d)) ∧ S (452 + (4 * v + d)) ≤ 501) : zr_purs (mX8_handOver c (nI v) (nI o) (nI d)) 1 (zg_up (zg_up S (452 + (4 * o + d)) (S (452 + (4 * v + d)))) (452 + (4 * v + d)) 0) (zB_pay B (1 + o) (1 + v) ((S (452 + (4 * v + d)) - 1 : Nat))) ∧ fX8_handOver c (nI v) (nI o) (nI d) = nI (S (452 + (4 * v + d)) - 1) ∧ (∀ k, k ≠ 41 → (mX8_handOver c (nI v) (nI o) (nI d)).1 k = c.1 k) ∧ (∀ k, k ≠ 42 → (mX8_handOver c (nI v) (nI o) (nI d)).2.1 k = c.2.1 k) ∧ (mX8_handOver c (nI v) (nI o) (nI d)).2.2 = c.2.2 := by
  have p42 : c.2.1 42 v = Int64.ofInt (B (1 + v)) := h.2.2.2.1 v hv
  have p42o : c.2.1 42 o = Int64.ofInt (B (1 + o)) := h.2.2.2.1 o ho
  have h1 : c.1 41 (4 * v + d) = nI (S (452 + (4 * v + d)) - 1) := by
    rw [← zb_pred hS.1]
    exact h.2.1 (4 * v + d) (by omega)
  have hX2 : S (452 + (4 * v + d)) = S (452 + (4 * v + d)) - 1 + 1 := by omega
  generalize hX : S (452 + (4 * v + d)) - 1 = X at h1 hX2 ⊢
  have hXb : X < 2 ^ 31 := by omega
  unfold mX8_handOver fX8_handOver
  rw [zc_isTicket hv hd, zc_isTicket ho hd, if_neg (by decide), if_neg (by decide), if_neg (by decide), if_neg (by decide), zc_tk hv hd, zc_tk ho hd, h1, nI_clamp (n := v) (by omega), nI_clamp (n := o) (by omega), zm_pl, if_neg (show ¬ ((42 : Nat) = 42 ∧ o = v) by omega)]
  have e1 : (rj_pi (rj_pi c 41 (4 * v + d) (-1)) 41 (4 * o + d) (nI X)).2.1 = c.2.1 := rfl
  rw [e1, p42, p42o, zn_64s hXb, zn_64a hXb]
  refine ⟨⟨fun e he => ?_, fun p hp => ?_, ?_, fun u hu => ?_, fun m hm => ?_⟩, rfl, fun k hk => ?_, fun k k1 => ?_, rfl⟩
  · show (rj_pi (rj_pi c 41 (4 * v + d) (-1)) 41 (4 * o + d) (nI X)).1 40 e = _
    rw [zm_pi_ne (by decide), zm_pi_ne (by decide), zg_up_ne (by omega), zg_up_ne (by omega)]
    exact h.1 e he
  · show (rj_pi (rj_pi c 41 (4 * v + d) (-1)) 41 (4 * o + d) (nI X)).1 41 p = _
    by_cases e : p = 4 * v + d
    · rw [zm_pi_ne2 (by omega), e, zm_pi_eq, zg_up_eq]
      rfl
    · by_cases e2 : p = 4 * o + d
      · rw [e2, zm_pi_eq, zg_up_ne (by omega), zg_up_eq, hX2, nI_pred]
      · rw [zm_pi_ne2 e2, zm_pi_ne2 e, zg_up_ne (by omega), zg_up_ne (by omega)]
        exact h.2.1 p hp
  · show (rj_pl _ 42 o _).2.1 39 2 = _
    rw [zm_pl, if_neg (by omega), zm_pl, if_neg (by omega), zB_o (by omega) (by omega)]
    exact h.2.2.1
  · show (rj_pl _ 42 o _).2.1 42 u = _
    rw [zm_pl]
    by_cases e : u = o
    · rw [if_pos ⟨rfl, e⟩, e, zB_f (by omega)]
    · rw [if_neg (fun z => e z.2), zm_pl]
      by_cases e2 : u = v
      · rw [if_pos ⟨rfl, e2⟩, e2, zB_t]
      · rw [if_neg (fun z => e2 z.2), zB_o (by omega) (by omega)]
        exact h.2.2.2.1 u hu
  · show (rj_pl _ 42 o _).2.1 43 m = _
    rw [zm_pl, if_neg (by omega), zm_pl, if_neg (by omega), zB_o (by omega) (by omega)]
    exact h.2.2.2.2 m hm
  · show (rj_pi (rj_pi c 41 (4 * v + d) (-1)) 41 (4 * o + d) (nI X)).1 k = _
    rw [zm_pi_ne hk, zm_pi_ne hk]
  · rw [zm_pl_ne k1, zm_pl_ne k1]
    rfl
end zqPurse
