/-! ONE STATE FOR BOTH: S the numbers of the reference's row (tickets and things one higher, so that none is 0), B the balances -/
def zr_row (s : Nat → Int32) (S : Nat → Nat) (B : Nat → Int) : Prop :=
  (∀ k, k < 452 → s k = nI (S k)) ∧ (∀ k, 452 ≤ k → k < 500 → s k = nI (S k) - 1) ∧ (∀ k, k < 25 → s (500 + k) = Int32.ofInt (B k)) ∧ (∀ k, 525 ≤ k → k < 625 → s k = nI (S k) - 1)
/-- the program of acts, of a Moment at the base b -/
def zr_prog (c : rj_M) (b : Nat) (S : Nat → Nat) : Prop :=
  (∀ a, a < 16 → c.1 (b + 8) a = nI (S (24 + 6 * a)) ∧ c.1 (b + 9) a = nI (S (25 + 6 * a)) ∧ c.1 (b + 10) a = nI (S (26 + 6 * a)) ∧ c.1 (b + 11) a = nI (S (27 + 6 * a)) ∧ c.1 (b + 12) a = nI (if S (23 + 6 * a) = 1 then S (28 + 6 * a) else 0)) ∧ (∀ p, p < 192 → c.1 (b + 13) p = nI (S (119 + p)))
def zr_grnd (c : rj_M) (b : Nat) (S : Nat → Nat) : Prop :=
  (∀ k, k < 4 → c.1 (b + 3) k = nI (S (3 + k))) ∧ (∀ p, p < 16 → c.1 (b + 4) p = nI (S (7 + p))) ∧ (∀ i j, i < 4 → j < 4 → c.1 (b + 5) (4 * i + j) = nI (zk_fw (fun x y => S (7 + 4 * x + y)) i j)) ∧ (∀ k, k < 100 → c.1 (b + 6) k = nI (S (525 + k)) - 1)
def zr_cal (c : rj_M) (b : Nat) (S : Nat → Nat) : Prop := c.1 (b + 1) 0 = nI (S 0) ∧ c.1 (b + 1) 1 = nI (S 1) ∧ c.1 (b + 1) 2 = nI (S 2)
def zr_exit (c : rj_M) (b : Nat) (S : Nat → Nat) : Prop := (∀ k, k < 3 → c.1 (b + 17) k = nI (S (311 + k))) ∧ (∀ p, p < 12 → c.1 (b + 18) p = nI (S (314 + p))) ∧ (∀ k, k < 4 → c.1 (b + 19) k = nI (S (326 + k)))
def zr_shft (c : rj_M) (b : Nat) (S : Nat → Nat) : Prop := c.1 (b + 25) 1 = nI (S 411) ∧ ∀ h, h < 24 → c.1 (b + 26) h = nI (S (387 + h))
def zr_powr (c : rj_M) (b : Nat) (S : Nat → Nat) : Prop := (∀ h, h < 24 → c.1 (b + 30) h = nI (S (412 + h))) ∧ ∀ g, g < 4 → c.1 (b + 31) g = nI (S (436 + 3 * g)) ∧ c.1 (b + 32) g = nI (S (437 + 3 * g)) ∧ c.1 (b + 33) g = nI (S (438 + 3 * g))
def zr_purs (c : rj_M) (b : Nat) (S : Nat → Nat) (B : Nat → Int) : Prop := (∀ d, d < 4 → c.1 (b + 39) d = nI (S (448 + d))) ∧ (∀ p, p < 48 → c.1 (b + 40) p = nI (S (452 + p)) - 1) ∧ c.2.1 (b + 38) 2 = Int64.ofInt (B 0) ∧ (∀ v, v < 12 → c.2.1 (b + 41) v = Int64.ofInt (B (1 + v))) ∧ (∀ m, m < 12 → c.2.1 (b + 42) m = Int64.ofInt (B (13 + m)))
/-- the lines: q the visitors in lines, in the order in which they came; w v: 0, or one more than the bar of v -/
def zr_line (S : Nat → Nat) (q : List Nat) (w : Nat → Nat) : Prop :=
  q.Nodup ∧ (∀ v, v ∈ q → v < 12) ∧ (∀ v, v < 12 → (v ∈ q ↔ w v ≠ 0)) ∧ (∀ v, v < 12 → w v ≤ 3) ∧ (∀ b, b < 3 → S (331 + 13 * b) = (q.filter (fun v => decide (w v = b + 1))).length ∧ ∀ k, k < (q.filter (fun v => decide (w v = b + 1))).length → (q.filter (fun v => decide (w v = b + 1)))[k]? = some (S (332 + 13 * b + k))) ∧ (∀ v, v ∈ q → 0 < S (373 + v) ∧ S (373 + v) ≤ S 385) ∧ q.Pairwise (fun x y => S (373 + x) < S (373 + y))
def zr_bars (c : rj_M) (b : Nat) (S : Nat → Nat) : Prop := ∃ (q : List Nat) (w : Nat → Nat), zr_line S q w ∧ c.1 (b + 20) 1 = nI q.length ∧ (∀ i, i < q.length → ∃ v, q[i]? = some v ∧ c.1 (b + 21) i = nI v) ∧ (∀ v, v < 12 → c.1 (b + 22) v = nI (w v) - 1) ∧ (∀ k, k < 3 → c.1 (b + 23) k = nI (S (370 + k))) ∧ c.1 (b + 20) 5 = nI (S 330) ∧ c.1 (b + 20) 6 = nI (S 386)
def zr_mom (c : rj_M) (b : Nat) (S : Nat → Nat) (B : Nat → Int) : Prop := zr_cal c b S ∧ zr_grnd c b S ∧ zr_prog c b S ∧ zr_exit c b S ∧ zr_bars c b S ∧ zr_shft c b S ∧ zr_powr c b S ∧ zr_purs c b S B
/-- what every state keeps to -/
def zo_cal (S : Nat → Nat) : Prop := 1 ≤ S 0 ∧ S 0 ≤ 9990 ∧ 1 ≤ S 1 ∧ S 1 ≤ 12 ∧ 1 ≤ S 2 ∧ S 2 ≤ 31 ∧ (S 1 = 2 → S 2 ≤ 29) ∧ ((S 1 = 4 ∨ S 1 = 6 ∨ S 1 = 9 ∨ S 1 = 11) → S 2 ≤ 30) ∧ (S 1 = 2 → ¬ (S 0 % 4 = 0 ∧ (S 0 % 100 ≠ 0 ∨ S 0 % 400 = 0)) → S 2 ≤ 28)
def zo_grnd (S : Nat → Nat) : Prop := (∀ k, k < 4 → S (3 + k) ≤ 1) ∧ (∀ i j, i < 4 → j < 4 → S (7 + 4 * i + j) ≤ 60 ∧ S (7 + 4 * i + j) = S (7 + 4 * j + i)) ∧ (∀ i, i < 4 → S (7 + 4 * i + i) = 0) ∧ (∀ k, k < 100 → S (525 + k) ≤ 4)
def zo_prog (S : Nat → Nat) : Prop := (∀ a, a < 16 → S (23 + 6 * a) ≤ 1 ∧ S (24 + 6 * a) < 4 ∧ S (25 + 6 * a) < 5760 ∧ S (26 + 6 * a) ≤ 240 ∧ S (27 + 6 * a) ≤ 60 ∧ S (27 + 6 * a) ≤ S (25 + 6 * a) ∧ S (25 + 6 * a) + S (26 + 6 * a) ≤ 5760 ∧ S (28 + 6 * a) < 4096 ∧ (S (23 + 6 * a) = 1 → 10 ≤ S (26 + 6 * a) ∧ 1 ≤ S (28 + 6 * a))) ∧ (∀ v a, v < 12 → a < 16 → S (119 + 16 * v + a) ≤ 9 ∧ (S (23 + 6 * a) ≠ 1 → S (119 + 16 * v + a) = 0))
def zo_exit (S : Nat → Nat) : Prop := (∀ k, k < 3 → S (311 + k) ≤ 50) ∧ (∀ p, p < 12 → 1 ≤ S (314 + p) ∧ S (314 + p) ≤ 30) ∧ (∀ k, k < 4 → S (326 + k) ≤ 2000)
def zo_bars (S : Nat → Nat) (n : Nat) : Prop := 1 ≤ S 330 ∧ S 330 ≤ 10 ∧ (∀ k, k < 3 → S (370 + k) ≤ 10) ∧ S 385 ≤ n ∧ S 386 ≤ 180 * n ∧ (∀ b, b < 3 → 0 < S (331 + 13 * b) → 0 < S (370 + b))
def zo_shft (S : Nat → Nat) : Prop := 2 ≤ S 411 ∧ S 411 ≤ 10 ∧ ∀ h, h < 24 → S (387 + h) ≤ 9
def zo_powr (S : Nat → Nat) : Prop := (∀ h, h < 24 → S (412 + h) ≤ 500) ∧ ∀ g, g < 4 → S (436 + 3 * g) ≤ 200 ∧ S (437 + 3 * g) ≤ 100 ∧ S (438 + 3 * g) ≤ 100
def zo_purs (S : Nat → Nat) (B : Nat → Int) (n : Nat) : Prop := (∀ d, d < 4 → S (448 + d) ≤ 500) ∧ (∀ p, p < 48 → S (452 + p) ≤ 501) ∧ (∀ v, v < 13 → - (500 * (n : Int)) ≤ B v ∧ B v ≤ 500 * (n : Int)) ∧ (∀ m, m < 12 → 0 ≤ B (13 + m)) ∧ B 0 + B 1 + B 2 + B 3 + B 4 + B 5 + B 6 + B 7 + B 8 + B 9 + B 10 + B 11 + B 12 + B 13 + B 14 + B 15 + B 16 + B 17 + B 18 + B 19 + B 20 + B 21 + B 22 + B 23 + B 24 = 0
def zo_ok (S : Nat → Nat) (B : Nat → Int) (n : Nat) : Prop := zo_cal S ∧ zo_grnd S ∧ zo_prog S ∧ zo_exit S ∧ zo_bars S n ∧ zo_shft S ∧ zo_powr S ∧ zo_purs S B n
