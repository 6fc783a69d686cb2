/-! BITS COUNTED; THE BANDS ARE PAID -/
def zk_pc (x n : Nat) : Nat := rj_fo (fun m s => if x.testBit m = true then s + 1 else s) n 0 0
theorem zk_pc_s {x n : Nat} : zk_pc x (n + 1) = if x.testBit n = true then zk_pc x n + 1 else zk_pc x n := by
  unfold zk_pc
  rw [zf_last n 0, Nat.zero_add]
theorem zk_pc_le {x : Nat} : ∀ n, zk_pc x n ≤ n
  | 0 => Nat.le_refl _
  | n + 1 => by
    have := zk_pc_le (x := x) n
    rw [zk_pc_s]
    split <;> omega
def zk_G1 (x : Nat) : Nat := x - ((x / 2 ^ 1) &&& 1431655765)
def zk_G2 (a : Nat) : Nat := (a &&& 858993459) + ((a / 2 ^ 2) &&& 858993459)
def zk_G3 (b : Nat) : Nat := (b + b / 2 ^ 4) &&& 252645135
def zk_G4 (c : Nat) : Nat := c + c / 2 ^ 8
def zk_G5 (d : Nat) : Nat := (d + d / 2 ^ 16) &&& 63
def zk_G (x : Nat) : Nat := zk_G5 (zk_G4 (zk_G3 (zk_G2 (zk_G1 x))))
/-- 16 bits, by the halves of a byte -/
def zk_F (x : Nat) : Nat := (x % 2 + x / 2 % 2 + x / 4 % 2 + x / 8 % 2) + (x / 16 % 2 + x / 32 % 2 + x / 64 % 2 + x / 128 % 2) + (x / 256 % 2 + x / 512 % 2 + x / 1024 % 2 + x / 2048 % 2) + (x / 4096 % 2 + x / 8192 % 2 + x / 16384 % 2 + x / 32768 % 2)
theorem zk_G_h0 : ∀ h, h < 16 → ∀ l, l < 256 → zk_G (256 * (0 + h) + l) = zk_F (256 * (0 + h) + l) := by decide +kernel
theorem zk_G_h1 : ∀ h, h < 16 → ∀ l, l < 256 → zk_G (256 * (16 + h) + l) = zk_F (256 * (16 + h) + l) := by decide +kernel
theorem zk_G_h2 : ∀ h, h < 16 → ∀ l, l < 256 → zk_G (256 * (32 + h) + l) = zk_F (256 * (32 + h) + l) := by decide +kernel
theorem zk_G_h3 : ∀ h, h < 16 → ∀ l, l < 256 → zk_G (256 * (48 + h) + l) = zk_F (256 * (48 + h) + l) := by decide +kernel
theorem zk_G_h4 : ∀ h, h < 16 → ∀ l, l < 256 → zk_G (256 * (64 + h) + l) = zk_F (256 * (64 + h) + l) := by decide +kernel
theorem zk_G_h5 : ∀ h, h < 16 → ∀ l, l < 256 → zk_G (256 * (80 + h) + l) = zk_F (256 * (80 + h) + l) := by decide +kernel
theorem zk_G_h6 : ∀ h, h < 16 → ∀ l, l < 256 → zk_G (256 * (96 + h) + l) = zk_F (256 * (96 + h) + l) := by decide +kernel
theorem zk_G_h7 : ∀ h, h < 16 → ∀ l, l < 256 → zk_G (256 * (112 + h) + l) = zk_F (256 * (112 + h) + l) := by decide +kernel
theorem zk_G_h8 : ∀ h, h < 16 → ∀ l, l < 256 → zk_G (256 * (128 + h) + l) = zk_F (256 * (128 + h) + l) := by decide +kernel
theorem zk_G_h9 : ∀ h, h < 16 → ∀ l, l < 256 → zk_G (256 * (144 + h) + l) = zk_F (256 * (144 + h) + l) := by decide +kernel
theorem zk_G_h10 : ∀ h, h < 16 → ∀ l, l < 256 → zk_G (256 * (160 + h) + l) = zk_F (256 * (160 + h) + l) := by decide +kernel
theorem zk_G_h11 : ∀ h, h < 16 → ∀ l, l < 256 → zk_G (256 * (176 + h) + l) = zk_F (256 * (176 + h) + l) := by decide +kernel
theorem zk_G_h12 : ∀ h, h < 16 → ∀ l, l < 256 → zk_G (256 * (192 + h) + l) = zk_F (256 * (192 + h) + l) := by decide +kernel
theorem zk_G_h13 : ∀ h, h < 16 → ∀ l, l < 256 → zk_G (256 * (208 + h) + l) = zk_F (256 * (208 + h) + l) := by decide +kernel
theorem zk_G_h14 : ∀ h, h < 16 → ∀ l, l < 256 → zk_G (256 * (224 + h) + l) = zk_F (256 * (224 + h) + l) := by decide +kernel
theorem zk_G_h15 : ∀ h, h < 16 → ∀ l, l < 256 → zk_G (256 * (240 + h) + l) = zk_F (256 * (240 + h) + l) := by decide +kernel
theorem zk_G_hl (h : Nat) (hh : h < 256) (l : Nat) (hl : l < 256) : zk_G (256 * h + l) = zk_F (256 * h + l) := by
  have e : h = 16 * (h / 16) + h % 16 := by omega
  have hm : h % 16 < 16 := Nat.mod_lt _ (by decide)
  rw [e]
  rcases (show h / 16 = 0 ∨ h / 16 = 1 ∨ h / 16 = 2 ∨ h / 16 = 3 ∨ h / 16 = 4 ∨ h / 16 = 5 ∨ h / 16 = 6 ∨ h / 16 = 7 ∨ h / 16 = 8 ∨ h / 16 = 9 ∨ h / 16 = 10 ∨ h / 16 = 11 ∨ h / 16 = 12 ∨ h / 16 = 13 ∨ h / 16 = 14 ∨ h / 16 = 15 by omega) with z | z | z | z | z | z | z | z | z | z | z | z | z | z | z | z
  · rw [z]
    exact zk_G_h0 _ hm l hl
  · rw [z]
    exact zk_G_h1 _ hm l hl
  · rw [z]
    exact zk_G_h2 _ hm l hl
  · rw [z]
    exact zk_G_h3 _ hm l hl
  · rw [z]
    exact zk_G_h4 _ hm l hl
  · rw [z]
    exact zk_G_h5 _ hm l hl
  · rw [z]
    exact zk_G_h6 _ hm l hl
  · rw [z]
    exact zk_G_h7 _ hm l hl
  · rw [z]
    exact zk_G_h8 _ hm l hl
  · rw [z]
    exact zk_G_h9 _ hm l hl
  · rw [z]
    exact zk_G_h10 _ hm l hl
  · rw [z]
    exact zk_G_h11 _ hm l hl
  · rw [z]
    exact zk_G_h12 _ hm l hl
  · rw [z]
    exact zk_G_h13 _ hm l hl
  · rw [z]
    exact zk_G_h14 _ hm l hl
  · rw [z]
    exact zk_G_h15 _ hm l hl
theorem zk_G_pc (x : Nat) (hx : x < 65536) : zk_G x = (x % 2 + x / 2 % 2 + x / 4 % 2 + x / 8 % 2) + (x / 16 % 2 + x / 32 % 2 + x / 64 % 2 + x / 128 % 2) + (x / 256 % 2 + x / 512 % 2 + x / 1024 % 2 + x / 2048 % 2) + (x / 4096 % 2 + x / 8192 % 2 + x / 16384 % 2 + x / 32768 % 2) := by
  have h := zk_G_hl (x / 256) (by omega) (x % 256) (Nat.mod_lt _ (by decide))
  rw [show 256 * (x / 256) + x % 256 = x by omega] at h
  exact h
theorem zk_tb {x i : Nat} : (if x.testBit i = true then 1 else 0) = x / 2 ^ i % 2 := by
  rw [Nat.testBit_eq_decide_div_mod_eq]
  by_cases h : x / 2 ^ i % 2 = 1
  · rw [if_pos (by simpa using h), h]
  · rw [if_neg (by simpa using h)]
    omega
theorem zk_pc_s' {x n : Nat} : zk_pc x (n + 1) = zk_pc x n + x / 2 ^ n % 2 := by
  rw [zk_pc_s, ← zk_tb]
  split <;> omega
theorem zk_pc16 {x : Nat} : zk_pc x 16 = (x % 2 + x / 2 % 2 + x / 4 % 2 + x / 8 % 2) + (x / 16 % 2 + x / 32 % 2 + x / 64 % 2 + x / 128 % 2) + (x / 256 % 2 + x / 512 % 2 + x / 1024 % 2 + x / 2048 % 2) + (x / 4096 % 2 + x / 8192 % 2 + x / 16384 % 2 + x / 32768 % 2) := by
  have h0 : zk_pc x 0 = 0 := rfl
  rw [zk_pc_s', zk_pc_s', zk_pc_s', zk_pc_s', zk_pc_s', zk_pc_s', zk_pc_s', zk_pc_s', zk_pc_s', zk_pc_s', zk_pc_s', zk_pc_s', zk_pc_s', zk_pc_s', zk_pc_s', zk_pc_s', h0]
  simp only [Nat.reducePow, Nat.div_one, Nat.zero_add]
  omega
theorem zk_u {n : Nat} (h : n < 2 ^ 32) : ((nI n).toUInt32 >>> ((1 : Int32).toUInt32 &&& Int32.toUInt32 31)).toInt32 = nI (n / 2 ^ 1) ∧ ((nI n).toUInt32 >>> ((2 : Int32).toUInt32 &&& Int32.toUInt32 31)).toInt32 = nI (n / 2 ^ 2) ∧ ((nI n).toUInt32 >>> ((4 : Int32).toUInt32 &&& Int32.toUInt32 31)).toInt32 = nI (n / 2 ^ 4) ∧ ((nI n).toUInt32 >>> ((8 : Int32).toUInt32 &&& Int32.toUInt32 31)).toInt32 = nI (n / 2 ^ 8) ∧ ((nI n).toUInt32 >>> ((16 : Int32).toUInt32 &&& Int32.toUInt32 31)).toInt32 = nI (n / 2 ^ 16) := ⟨pk_ushrN h 1 1 (by decide +kernel), pk_ushrN h 2 2 (by decide +kernel), pk_ushrN h 4 4 (by decide +kernel), pk_ushrN h 8 8 (by decide +kernel), pk_ushrN h 16 16 (by decide +kernel)⟩
theorem zk_ba {a b : Nat} : a &&& b ≤ b := Nat.and_le_right
/-- the JDK's count of bits -/
theorem zk_bc {μ : rj_M} {x : Nat} (hx : x < 65536) : fJ6_bitCount_0f7a4 μ (nI x) = nI (zk_pc x 16) := by
  have a1 : (nI x - (((nI x).toUInt32 >>> ((1 : Int32).toUInt32 &&& Int32.toUInt32 31)).toInt32 &&& 1431655765)) = nI (zk_G1 x) := by
    have hle : (x / 2 ^ 1) &&& 1431655765 ≤ x := Nat.le_trans Nat.and_le_left (Nat.div_le_self _ _)
    rw [(zk_u (n := x) (by omega)).1, show (1431655765 : Int32) = nI 1431655765 from rfl, zn_and (by omega) (by decide), pk_sub hle]
    rfl
  have b1 : zk_G1 x < 65536 := by unfold zk_G1; omega
  have a2 : ((nI (zk_G1 x) &&& 858993459) + (((nI (zk_G1 x)).toUInt32 >>> ((2 : Int32).toUInt32 &&& Int32.toUInt32 31)).toInt32 &&& 858993459)) = nI (zk_G2 (zk_G1 x)) := by
    rw [(zk_u (n := zk_G1 x) (by omega)).2.1, show (858993459 : Int32) = nI 858993459 from rfl, zn_and (by omega) (by decide), zn_and (by omega) (by decide), nI_add]
    rfl
  have b2 : zk_G2 (zk_G1 x) < 2 ^ 31 := by
    have h1 := zk_ba (a := zk_G1 x) (b := 858993459)
    have h2 := zk_ba (a := zk_G1 x / 2 ^ 2) (b := 858993459)
    unfold zk_G2
    omega
  have a3 : ((nI (zk_G2 (zk_G1 x)) + ((nI (zk_G2 (zk_G1 x))).toUInt32 >>> ((4 : Int32).toUInt32 &&& Int32.toUInt32 31)).toInt32) &&& 252645135) = nI (zk_G3 (zk_G2 (zk_G1 x))) := by
    rw [(zk_u (n := zk_G2 (zk_G1 x)) (by omega)).2.2.1, nI_add, show (252645135 : Int32) = nI 252645135 from rfl, zn_and (by omega) (by decide)]
    rfl
  have b3 : zk_G3 (zk_G2 (zk_G1 x)) ≤ 252645135 := zk_ba
  have a4 : (nI (zk_G3 (zk_G2 (zk_G1 x))) + ((nI (zk_G3 (zk_G2 (zk_G1 x)))).toUInt32 >>> ((8 : Int32).toUInt32 &&& Int32.toUInt32 31)).toInt32) = nI (zk_G4 (zk_G3 (zk_G2 (zk_G1 x)))) := by
    rw [(zk_u (n := zk_G3 (zk_G2 (zk_G1 x))) (by omega)).2.2.2.1, nI_add]
    rfl
  have b4 : zk_G4 (zk_G3 (zk_G2 (zk_G1 x))) < 2 ^ 30 := by unfold zk_G4; omega
  have a5 : ((nI (zk_G4 (zk_G3 (zk_G2 (zk_G1 x)))) + ((nI (zk_G4 (zk_G3 (zk_G2 (zk_G1 x))))).toUInt32 >>> ((16 : Int32).toUInt32 &&& Int32.toUInt32 31)).toInt32) &&& 63) = nI (zk_G5 (zk_G4 (zk_G3 (zk_G2 (zk_G1 x))))) := by
    rw [(zk_u (n := zk_G4 (zk_G3 (zk_G2 (zk_G1 x)))) (by omega)).2.2.2.2, nI_add, show (63 : Int32) = nI 63 from rfl, zn_and (by omega) (by decide)]
    rfl
  unfold fJ6_bitCount_0f7a4
  rw [a1, a2, a3, a4, a5, zk_pc16]
  exact congrArg nI (zk_G_pc x hx)
theorem zk_pc12 {x : Nat} (hx : x < 4096) : zk_pc x 16 = zk_pc x 12 := by
  have h : ∀ i, 12 ≤ i → x.testBit i = false := fun i hi => Nat.testBit_lt_two_pow (Nat.lt_of_lt_of_le hx (Nat.pow_le_pow_right (n := 2) (by decide) hi))
  rw [zk_pc_s, if_neg (by rw [h 15 (by decide)]; decide), zk_pc_s, if_neg (by rw [h 14 (by decide)]; decide), zk_pc_s, if_neg (by rw [h 13 (by decide)]; decide), zk_pc_s, if_neg (by rw [h 12 (by decide)]; decide)]
