/-! THE BANDS ARE PAID, both sides -/
theorem zc_payAct0 {s : rj_M} {e : Int64} : mX8_payAct s 0 e = s := by
  unfold mX8_payAct
  have key : ∀ n, n ≤ 12 → rj_fo (bX8_payAct_3 s 0 e) n 0 s = s := fun n => by
    induction n with
    | zero => exact fun _ => rfl
    | succ n ih =>
      intro hn
      rw [zf_last n 0, ih (by omega), Nat.zero_add]
      unfold bX8_payAct_3
      refine if_pos ?_
      have := (zn_bit0 (s := 0) (j := n) (by decide) (by omega)).mpr (Nat.zero_testBit n)
      exact this
  exact key 12 (Nat.le_refl _)
section zqPay2
variable {r c : rj_M} {S : Nat → Nat} {B : Nat → Int} {set : Nat}
theorem zn_ofI {b : Int} (h : 0 ≤ b) : Int64.ofInt b = lN b.toNat ∧ Int32.ofInt b = nI b.toNat := by
  rw [zn_o64, zn_o32, Int.toNat_of_nonneg h]
  exact ⟨rfl, rfl⟩
theorem zc_members (h : zr_prog c 1 S) (ok : zo_prog S) {a : Nat} (ha : a < 16) (he : zp_has S a) : fX7_membersOf c (nI a) = nI (S (28 + 6 * a)) := by
  unfold fX7_membersOf
  rcases zc_has h ok ha with ⟨-, e2⟩ | ⟨e, -⟩
  · rw [e2, if_neg (by decide), nI_clamp (n := a) (by omega)]
    have h5 := (h.1 a ha).2.2.2.2
    rw [if_pos he] at h5
    exact h5
  · exact absurd he e
theorem zb_payLoop {c1 r : rj_M} {sh : Nat} {f88 : Nat → rj_M → rj_M} {g98 : Nat → rj_M → Nat → rj_M → rj_M} (hc1 : c1.1 = c.1) (hp : zr_prog c 1 S) (ok : zo_prog S) (hs : set < 65536) (hb : ∀ a, set.testBit a = true → zp_has S a ∧ a < 16) (hsh : sh < 2 ^ 31) (hdiv : c.2.1 39 2 / (rj_fo (bX8_payMembers_5 c (nI set)) 16 0 0).toInt64 = lN sh) (hf : ∀ a s, f88 a s = rj_fo (g98 a s) 12 0 s) (hg : ∀ a s m z, g98 a s m z = if ((nI set >>> ((nI a) &&& 31)) &&& 1) = 1 then (if (((fX12_its z (nI a) 5) >>> ((nI m) &&& 31)) &&& 1) = 1 then (mX12_pays z 0 (13 + (nI m)) (nI sh)) else z) else z) (base : zb_paid c1 r S B sh 0 c1 r) : ∀ n, n ≤ 16 → zb_paid c1 r S B sh (zk_all S set n) (rj_fo (bX8_payMembers_78 c (nI set)) n 0 c1) (rj_fo f88 n 0 r) := fun n => by
  induction n with
  | zero => exact fun _ => base
  | succ n ih =>
    intro hn
    have h := ih (by omega)
    rw [zf_last n 0, zf_last n 0, Nat.zero_add, hf, zk_all_s]
    generalize rj_fo (bX8_payMembers_78 c (nI set)) n 0 c1 = x at h ⊢
    generalize rj_fo f88 n 0 r = y at h ⊢
    unfold bX8_payMembers_78
    rw [hdiv]
    have hm := zk_mem ok (a := n) (by omega)
    by_cases cb : set.testBit n = true
    · obtain ⟨he, -⟩ := hb n cb
      have hx1 : x.1 = c.1 := by
        obtain ⟨_, _, _, _, _, _, _, e, _⟩ := h
        exact e.trans hc1
      have hpx : zr_prog x 1 S := zr_prog_of hp (fun k _ _ => by rw [hx1])
      rw [if_pos cb, if_neg (fun z => by rw [(zn_bit0 (by omega) (by omega)).mp z] at cb; cases cb), zc_members hpx ok (by omega) he]
      unfold mX8_payAct
      exact zb_payAct h hsh (by omega) rfl hm (fun m z => by rw [hg, if_pos ((zn_bit1 (by omega) (by omega)).mpr cb)])
    · have cb' : set.testBit n = false := by simpa using cb
      rw [if_neg cb, if_pos ((zn_bit0 (by omega) (by omega)).mpr cb'), zc_payAct0]
      have hid : rj_fo (g98 n y) 12 0 y = y := zf_inv (fun _ z => z = y) 12 0 y rfl (fun j z _ _ e => by
        rw [hg, if_neg (fun w => cb ((zn_bit1 (by omega) (by omega)).mp w)), e])
      rw [hid]
      exact h
theorem zb_payAll {f88 : Nat → rj_M → rj_M} {g98 : Nat → rj_M → Nat → rj_M → rj_M} (hp : zr_prog c 1 S) (hu : zr_purs c 1 S B) (hr : zr_row (r.1 396) S B) (ok : zo_prog S) (hs : set < 65536) (hb : ∀ a, set.testBit a = true → zp_has S a ∧ a < 16) (h0 : 0 < B 0) (hB : B 0 < 2 ^ 31) (ha : 0 < zk_all S set 16) (hf : ∀ a s, f88 a s = rj_fo (g98 a s) 12 0 s) (hg : ∀ a s m z, g98 a s m z = if ((nI set >>> ((nI a) &&& 31)) &&& 1) = 1 then (if (((fX12_its z (nI a) 5) >>> ((nI m) &&& 31)) &&& 1) = 1 then (mX12_pays z 0 (13 + (nI m)) (nI ((B 0).toNat / zk_all S set 16))) else z) else z) : ∃ Bi : Nat → Int, zr_purs (mX8_payMembers c (nI set)) 1 S Bi ∧ zr_row ((rj_fo f88 16 0 r).1 396) S Bi ∧ fX8_payMembers c (nI set) = nI ((B 0).toNat / zk_all S set 16) ∧ 0 ≤ Bi 0 ∧ Bi 0 ≤ B 0 ∧ (∀ k, 1 ≤ k → k < 13 → Bi k = B k) ∧ (∀ m, m < 12 → B (13 + m) ≤ Bi (13 + m)) ∧ zB_sum Bi = zB_sum B ∧ (mX8_payMembers c (nI set)).1 = c.1 ∧ (∀ k, k ≠ 39 → k ≠ 43 → (mX8_payMembers c (nI set)).2.1 k = c.2.1 k) ∧ (mX8_payMembers c (nI set)).2.2 = c.2.2 ∧ (∀ k, k ≠ 396 → (rj_fo f88 16 0 r).1 k = r.1 k) ∧ (rj_fo f88 16 0 r).2 = r.2 := by
  have h39 : c.2.1 39 2 = lN (B 0).toNat := hu.2.2.1.trans (zn_ofI (by omega)).1
  have hall := zk_all_le (S := S) (set := set) 16
  have hB' : (B 0).toNat < 2 ^ 31 := by omega
  have hpos : 0 < (B 0).toNat := by omega
  have eall := zc_allPaid hp ok hs hb
  have hdiv : c.2.1 39 2 / (rj_fo (bX8_payMembers_5 c (nI set)) 16 0 0).toInt64 = lN ((B 0).toNat / zk_all S set 16) := by
    rw [eall, nI_l (by omega), h39]
    exact pk_lDiv (by omega) ha (by omega)
  have hcmp : ¬ lg_cmp (c.2.1 39 2) 0 ≤ 0 := by
    rw [lg_cmp_le, h39]
    exact fun z => by
      have := (pk_lLE (a := (B 0).toNat) (b := 0) (by omega) (by decide)).mp z
      omega
  have hpa : (0 : Int32) < rj_fo (bX8_payMembers_5 c (nI set)) 16 0 0 := by
    rw [eall]
    exact nI_lt (a := 0) ha (by omega)
  have hshle : (B 0).toNat / zk_all S set 16 * zk_all S set 16 ≤ (B 0).toNat := Nat.div_mul_le_self _ _
  have hsh31 : (B 0).toNat / zk_all S set 16 < 2 ^ 31 := Nat.lt_of_le_of_lt (Nat.div_le_self _ _) hB'
  unfold mX8_payMembers fX8_payMembers
  rw [if_neg hcmp, if_pos hpa, if_neg hcmp, if_pos hpa, hdiv]
  generalize hshd : (B 0).toNat / zk_all S set 16 = sh at hdiv hshle hsh31 hg ⊢
  have hnew : c.2.1 39 2 - lN sh * (rj_fo (bX8_payMembers_5 c (nI set)) 16 0 0).toInt64 = Int64.ofInt (B 0 - ((sh * zk_all S set 16 : Nat) : Int)) := by
    rw [eall, nI_l (by omega), hu.2.2.1, zn_o64, zn_o64, ← Int64.ofInt_mul, ← Int64.ofInt_sub, Int.natCast_mul]
  rw [hnew]
  have base : zb_paid (rj_pl c 39 2 (Int64.ofInt (B 0 - ((sh * zk_all S set 16 : Nat) : Int)))) r S B sh 0 (rj_pl c 39 2 (Int64.ofInt (B 0 - ((sh * zk_all S set 16 : Nat) : Int)))) r := ⟨B, fun m hm => by rw [zm_pl_ne (by decide)]; exact hu.2.2.2.2 m hm, hr, by rw [Nat.mul_zero]; show B 0 = B 0 - 0; omega, fun _ _ _ => rfl, fun _ _ => Int.le_refl _, rfl, rfl, fun _ _ => rfl, rfl, fun _ _ => rfl, rfl⟩
  have k1 : (rj_pl c 39 2 (Int64.ofInt (B 0 - ((sh * zk_all S set 16 : Nat) : Int)))).1 = c.1 := rfl
  have k2 : (rj_pl c 39 2 (Int64.ofInt (B 0 - ((sh * zk_all S set 16 : Nat) : Int)))).2.1 39 2 = Int64.ofInt (B 0 - ((sh * zk_all S set 16 : Nat) : Int)) := by rw [zm_pl, if_pos ⟨rfl, rfl⟩]
  have k3 : ∀ k, k ≠ 39 → (rj_pl c 39 2 (Int64.ofInt (B 0 - ((sh * zk_all S set 16 : Nat) : Int)))).2.1 k = c.2.1 k := fun k hk => zm_pl_ne hk
  have k4 : (rj_pl c 39 2 (Int64.ofInt (B 0 - ((sh * zk_all S set 16 : Nat) : Int)))).2.2 = c.2.2 := rfl
  generalize rj_pl c 39 2 (Int64.ofInt (B 0 - ((sh * zk_all S set 16 : Nat) : Int))) = c1 at base k1 k2 k3 k4 ⊢
  obtain ⟨Bi, b1, b2, b3, b4, b5, b6, b7, b8, b9, b10, b11⟩ := zb_payLoop k1 hp ok hs hb hsh31 hdiv hf hg base 16 (Nat.le_refl _)
  generalize rj_fo (bX8_payMembers_78 c (nI set)) 16 0 c1 = x at b1 b7 b8 b9 ⊢
  generalize rj_fo f88 16 0 r = y at b2 b10 b11 ⊢
  have x1 : x.1 = c.1 := b7.trans k1
  refine ⟨Bi, ⟨fun d hd => by rw [x1]; exact hu.1 d hd, fun p hp => by rw [x1]; exact hu.2.1 p hp, ?_, fun v hv => ?_, b1⟩, b2, ?_, by omega, by omega, b4, b5, b6, x1, fun k e1 e2 => ?_, b9.trans k4, b10, b11⟩
  · rw [b8 (1 + 38) (by decide), b3]
    exact k2
  · rw [b8 (1 + 41) (by decide), k3 (1 + 41) (by decide), b4 (1 + v) (by omega) (by omega)]
    exact hu.2.2.2.1 v hv
  · rw [← nI_l (by omega)]
    exact Int32.toInt32_toInt64 _
  · rw [b8 k e2, k3 k e1]
end zqPay2
