/-! ACTS, read on both sides -/
abbrev zp_has (S : Nat → Nat) (a : Nat) : Prop := S (23 + 6 * a) = 1
/-- a place in the reference's row -/
theorem zi_its {a w : Nat} (ha : a < 16) (hw : w < 6) : ((23 + (6 * nI a)) + nI w).toNatClampNeg = 23 + 6 * a + w := pk_cl _ (by rw [show (23 : Int32) = nI 23 from rfl, show (6 : Int32) = nI 6 from rfl, pk_mul, nI_add, nI_add]) (by omega)
theorem zi_wish {v a : Nat} (hv : v < 12) (ha : a < 16) : ((119 + (16 * nI v)) + nI a).toNatClampNeg = 119 + 16 * v + a := pk_cl _ (by rw [show (119 : Int32) = nI 119 from rfl, show (16 : Int32) = nI 16 from rfl, pk_mul, nI_add, nI_add]) (by omega)
section zpRef
variable {r : rj_M} {S : Nat → Nat} {B : Nat → Int}
theorem zq_its (h : zr_row (r.1 396) S B) {a w : Nat} (ha : a < 16) (hw : w < 6) {i : Int32} (hi : i = nI w) : fX12_its r (nI a) i = nI (S (23 + 6 * a + w)) := by
  subst hi
  unfold fX12_its
  rw [zi_its ha hw]
  exact h.1 _ (by omega)
theorem zq_is (h : zr_row (r.1 396) S B) {a : Nat} (ha : a < 16) : fX12_its r (nI a) 0 = nI (S (23 + 6 * a)) := (zq_its h ha (w := 0) (by decide) rfl).trans (by rw [show 23 + 6 * a + 0 = 23 + 6 * a by omega])
theorem zq_stage (h : zr_row (r.1 396) S B) {a : Nat} (ha : a < 16) : fX12_its r (nI a) 1 = nI (S (24 + 6 * a)) := (zq_its h ha (w := 1) (by decide) rfl).trans (by rw [show 23 + 6 * a + 1 = 24 + 6 * a by omega])
theorem zq_begin (h : zr_row (r.1 396) S B) {a : Nat} (ha : a < 16) : fX12_its r (nI a) 2 = nI (S (25 + 6 * a)) := (zq_its h ha (w := 2) (by decide) rfl).trans (by rw [show 23 + 6 * a + 2 = 25 + 6 * a by omega])
theorem zq_long (h : zr_row (r.1 396) S B) {a : Nat} (ha : a < 16) : fX12_its r (nI a) 3 = nI (S (26 + 6 * a)) := (zq_its h ha (w := 3) (by decide) rfl).trans (by rw [show 23 + 6 * a + 3 = 26 + 6 * a by omega])
theorem zq_check (h : zr_row (r.1 396) S B) {a : Nat} (ha : a < 16) : fX12_its r (nI a) 4 = nI (S (27 + 6 * a)) := (zq_its h ha (w := 4) (by decide) rfl).trans (by rw [show 23 + 6 * a + 4 = 27 + 6 * a by omega])
theorem zq_mem (h : zr_row (r.1 396) S B) {a : Nat} (ha : a < 16) : fX12_its r (nI a) 5 = nI (S (28 + 6 * a)) := (zq_its h ha (w := 5) (by decide) rfl).trans (by rw [show 23 + 6 * a + 5 = 28 + 6 * a by omega])
theorem zq_isAct (h : zr_row (r.1 396) S B) (ok : zo_prog S) {a : Nat} (ha : a < 16) : (zp_has S a ∧ fX12_isAct r (nI a) = 1) ∨ (¬ zp_has S a ∧ fX12_isAct r (nI a) = 0) := by
  have h1 : fX12_in r (nI a) 0 15 = 1 := by
    rcases zn_in (μ := r) (a := nI a) (c := 15) (n := 15) rfl (by decide) with ⟨e, -⟩ | ⟨-, e | e⟩
    · exact e
    · exact absurd e (nI_pos (by omega))
    · exact absurd e (nI_ge (by omega) (by decide))
  have h2 : fX12_its r (nI a) 0 = nI (S (23 + 6 * a)) := zq_its h ha (w := 0) (by decide) rfl
  have h3 := (ok.1 a ha).1
  unfold fX12_isAct zp_has
  rw [h1, if_neg (by decide), h2]
  by_cases e : S (23 + 6 * a) = 1
  · rw [e]
    exact .inl ⟨rfl, if_pos rfl⟩
  · have e0 : S (23 + 6 * a) = 0 := by omega
    rw [e0]
    exact .inr ⟨by decide, if_neg (by decide)⟩
theorem zq_wish (h : zr_row (r.1 396) S B) {v a : Nat} (hv : v < 12) (ha : a < 16) : fX12_wishOf r (nI v) (nI a) = nI (S (119 + 16 * v + a)) := by
  unfold fX12_wishOf
  rw [zi_wish hv ha]
  exact h.1 _ (by omega)
theorem zq_end (h : zr_row (r.1 396) S B) {a : Nat} (ha : a < 16) : fX12_endOf r (nI a) = nI (S (25 + 6 * a) + S (26 + 6 * a)) := by
  unfold fX12_endOf
  rw [zq_begin h ha, zq_long h ha, nI_add]
end zpRef
/-- pieces of two acts meet; acts clash -/
def zp_meet (S : Nat → Nat) (a b : Nat) : Prop := S (25 + 6 * a) - S (27 + 6 * a) < S (25 + 6 * b) + S (26 + 6 * b) ∧ S (25 + 6 * b) - S (27 + 6 * b) < S (25 + 6 * a) + S (26 + 6 * a)
def zp_clash (S : Nat → Nat) (a b : Nat) : Prop := zp_meet S a b ∧ (S (24 + 6 * a) = S (24 + 6 * b) ∨ S (28 + 6 * a) &&& S (28 + 6 * b) ≠ 0)
theorem zp_meet_sym {S : Nat → Nat} {a b : Nat} : zp_meet S a b ↔ zp_meet S b a := ⟨fun h => ⟨h.2, h.1⟩, fun h => ⟨h.2, h.1⟩⟩
theorem zp_clash_sym {S : Nat → Nat} {a b : Nat} : zp_clash S a b ↔ zp_clash S b a := by
  unfold zp_clash
  rw [zp_meet_sym, Nat.and_comm, eq_comm (a := S (24 + 6 * a))]
section zpRef2
variable {r : rj_M} {S : Nat → Nat} {B : Nat → Int}
theorem zq_meet (h : zr_row (r.1 396) S B) (ok : zo_prog S) {a b : Nat} (ha : a < 16) (hb : b < 16) : (zp_meet S a b ∧ fX12_piecesMeet r (nI a) (nI b) = 1) ∨ (¬ zp_meet S a b ∧ fX12_piecesMeet r (nI a) (nI b) = 0) := by
  obtain ⟨-, -, a2, a3, a4, a5, a6, -⟩ := ok.1 a ha
  obtain ⟨-, -, b2, b3, b4, b5, b6, -⟩ := ok.1 b hb
  unfold fX12_piecesMeet zp_meet
  rw [zq_end h ha, zq_end h hb, zq_begin h ha, zq_check h ha, zq_begin h hb, zq_check h hb, pk_sub a5, pk_sub b5]
  by_cases c : S (25 + 6 * a) - S (27 + 6 * a) < S (25 + 6 * b) + S (26 + 6 * b)
  · rw [if_neg (nI_ge c (by omega))]
    by_cases d : S (25 + 6 * b) - S (27 + 6 * b) < S (25 + 6 * a) + S (26 + 6 * a)
    · rw [if_neg (nI_ge d (by omega))]
      exact .inl ⟨⟨c, d⟩, rfl⟩
    · rw [if_pos (nI_le (Nat.le_of_not_lt d) (by omega))]
      exact .inr ⟨fun z => d z.2, rfl⟩
  · rw [if_pos (nI_le (Nat.le_of_not_lt c) (by omega))]
    exact .inr ⟨fun z => c z.1, rfl⟩
theorem zn_and {a b : Nat} (ha : a < 2 ^ 32) (hb : b < 2 ^ 32) : nI a &&& nI b = nI (a &&& b) := by
  apply Int32.toBitVec_inj.mp
  apply BitVec.eq_of_toNat_eq
  rw [Int32.toBitVec_and, BitVec.toNat_and, pk_tn ha, pk_tn hb, pk_tn (Nat.lt_of_le_of_lt Nat.and_le_left ha)]
theorem zn_and0 {a b : Nat} (ha : a < 2 ^ 31) (hb : b < 2 ^ 31) : nI a &&& nI b = 0 ↔ a &&& b = 0 := by
  rw [zn_and (by omega) (by omega)]
  exact nI_eq (b := 0) (Nat.lt_of_le_of_lt Nat.and_le_left ha) (by decide)
theorem zq_clash (h : zr_row (r.1 396) S B) (ok : zo_prog S) {a b : Nat} (ha : a < 16) (hb : b < 16) : (zp_clash S a b ∧ fX12_areClashing r (nI a) (nI b) = 1) ∨ (¬ zp_clash S a b ∧ fX12_areClashing r (nI a) (nI b) = 0) := by
  obtain ⟨-, a1, -, -, -, -, -, a7, -⟩ := ok.1 a ha
  obtain ⟨-, b1, -, -, -, -, -, b7, -⟩ := ok.1 b hb
  unfold fX12_areClashing zp_clash
  rcases zq_meet h ok ha hb with ⟨e, e2⟩ | ⟨e, e2⟩
  · rw [e2, if_neg (by decide), zq_stage h ha, zq_stage h hb, zq_mem h ha, zq_mem h hb]
    by_cases c : S (24 + 6 * a) = S (24 + 6 * b)
    · rw [c, if_pos rfl]
      exact .inl ⟨⟨e, .inl rfl⟩, rfl⟩
    · rw [if_neg (fun z => c ((nI_eq (by omega) (by omega)).mp z))]
      by_cases d : S (28 + 6 * a) &&& S (28 + 6 * b) = 0
      · rw [if_pos ((zn_and0 (by omega) (by omega)).mpr d)]
        exact .inr ⟨fun z => z.2.elim c (fun y => y d), rfl⟩
      · rw [if_neg (fun z => d ((zn_and0 (by omega) (by omega)).mp z))]
        exact .inl ⟨⟨e, .inr d⟩, rfl⟩
  · rw [e2, if_pos rfl]
    exact .inr ⟨fun z => e z.1, rfl⟩
end zpRef2
section zpCls
variable {c : rj_M} {S : Nat → Nat}
theorem zc_has (h : zr_prog c 1 S) (ok : zo_prog S) {a : Nat} (ha : a < 16) : (zp_has S a ∧ fX7_has c (nI a) = 1) ∨ (¬ zp_has S a ∧ fX7_has c (nI a) = 0) := by
  have h1 : c.1 13 a = nI (if S (23 + 6 * a) = 1 then S (28 + 6 * a) else 0) := (h.1 a ha).2.2.2.2
  obtain ⟨-, -, -, -, -, -, -, a7, a8⟩ := ok.1 a ha
  unfold fX7_has zp_has
  rw [if_neg (nI_pos (by omega)), if_neg (show ¬ (16 : Int32) ≤ nI a from nI_ge ha (by decide)), nI_clamp (by omega), h1]
  by_cases e : S (23 + 6 * a) = 1
  · rw [if_pos e, if_neg (fun z => by have := (nI_eq (b := 0) (by omega) (by decide)).mp z; have := (a8 e).2; omega)]
    exact .inl ⟨e, rfl⟩
  · rw [if_neg e, if_pos (show nI 0 = 0 from rfl)]
    exact .inr ⟨e, rfl⟩
theorem zc_no : fX7_has c (-1) = 0 := by
  unfold fX7_has
  exact if_pos (by decide)
theorem zc_wish (h : zr_prog c 1 S) (ok : zo_prog S) {v a : Nat} (hv : v < 12) (ha : a < 16) : fX7_wishOf c (nI v) (nI a) = nI (S (119 + 16 * v + a)) := by
  have h1 : (nI v * 16) + nI a = nI (16 * v + a) := by rw [show (16 : Int32) = nI 16 from rfl, pk_mul, nI_add, Nat.mul_comm]
  have h2 : c.1 14 (16 * v + a) = nI (S (119 + (16 * v + a))) := h.2 _ (by omega)
  unfold fX7_wishOf
  rw [h1, if_neg (nI_pos (by omega)), if_neg (show ¬ (192 : Int32) ≤ nI (16 * v + a) from nI_ge (a := 16 * v + a) (b := 192) (by omega) (by decide)), nI_clamp (by omega), h2, show 119 + (16 * v + a) = 119 + 16 * v + a by omega]
  rcases zc_has h ok ha with ⟨e, e2⟩ | ⟨e, e2⟩
  · rw [e2, if_neg (by decide)]
  · rw [e2, if_pos rfl, (ok.2 v a hv ha).2 e]
    rfl
theorem zc_begin (h : zr_prog c 1 S) {a : Nat} (ha : a < 16) : c.1 10 a = nI (S (25 + 6 * a)) := (h.1 a ha).2.1
theorem zc_stage (h : zr_prog c 1 S) (ok : zo_prog S) {a : Nat} (ha : a < 16) : fX7_stageOf c (nI a) = nI (S (24 + 6 * a)) ∨ (¬ zp_has S a ∧ fX7_stageOf c (nI a) = -1) := by
  have h1 : c.1 9 a = nI (S (24 + 6 * a)) := (h.1 a ha).1
  unfold fX7_stageOf
  rcases zc_has h ok ha with ⟨e, e2⟩ | ⟨e, e2⟩
  · rw [e2, if_neg (by decide), nI_clamp (by omega), h1]
    exact .inl rfl
  · rw [e2, if_pos rfl]
    exact .inr ⟨e, rfl⟩
theorem zc_stage1 (h : zr_prog c 1 S) (ok : zo_prog S) {a : Nat} (ha : a < 16) (e : zp_has S a) : fX7_stageOf c (nI a) = nI (S (24 + 6 * a)) := by
  rcases zc_stage h ok ha with z | z
  · exact z
  · exact absurd e z.1
theorem zc_stage0 (h : zr_prog c 1 S) (ok : zo_prog S) {a : Nat} (ha : a < 16) (e : ¬ zp_has S a) : fX7_stageOf c (nI a) = -1 := by
  unfold fX7_stageOf
  rcases zc_has h ok ha with ⟨e1, e2⟩ | ⟨e1, e2⟩
  · exact absurd e1 e
  · rw [e2, if_pos rfl]
theorem zc_beginOf (h : zr_prog c 1 S) (ok : zo_prog S) {a : Nat} (ha : a < 16) : fX7_beginOf c (nI a) = if S (23 + 6 * a) = 1 then nI (S (25 + 6 * a)) else -1 := by
  unfold fX7_beginOf
  rcases zc_has h ok ha with ⟨e, e2⟩ | ⟨e, e2⟩
  · rw [e2, if_neg (by decide), nI_clamp (by omega), zc_begin h ha, if_pos e]
  · rw [e2, if_pos rfl, if_neg e]
theorem zc_endOf (h : zr_prog c 1 S) (ok : zo_prog S) {a : Nat} (ha : a < 16) : fX7_endOf c (nI a) = if S (23 + 6 * a) = 1 then nI (S (25 + 6 * a) + S (26 + 6 * a)) else -1 := by
  have h1 : c.1 11 a = nI (S (26 + 6 * a)) := (h.1 a ha).2.2.1
  unfold fX7_endOf
  rcases zc_has h ok ha with ⟨e, e2⟩ | ⟨e, e2⟩
  · rw [e2, if_neg (by decide), nI_clamp (by omega), zc_begin h ha, h1, nI_add, if_pos e]
  · rw [e2, if_pos rfl, if_neg e]
theorem zc_dayOf (h : zr_prog c 1 S) (ok : zo_prog S) {a : Nat} (ha : a < 16) : fX7_dayOf c (nI a) = if S (23 + 6 * a) = 1 then nI (S (25 + 6 * a) / 1440) else -1 := by
  have h0 := (ok.1 a ha).2.2.1
  unfold fX7_dayOf
  rcases zc_has h ok ha with ⟨e, e2⟩ | ⟨e, e2⟩
  · rw [e2, if_neg (by decide), nI_clamp (by omega), zc_begin h ha, if_pos e]
    exact pk_div (by omega) (by decide) (by decide)
  · rw [e2, if_pos rfl, if_neg e]
theorem zc_meet (h : zr_prog c 1 S) (ok : zo_prog S) {a b : Nat} (ha : a < 16) (hb : b < 16) : ((zp_has S a ∧ zp_has S b ∧ zp_meet S a b) ∧ fX7_doPiecesMeet c (nI a) (nI b) = 1) ∨ (¬ (zp_has S a ∧ zp_has S b ∧ zp_meet S a b) ∧ fX7_doPiecesMeet c (nI a) (nI b) = 0) := by
  obtain ⟨-, -, a2, a3, a4, a5, a6, -⟩ := ok.1 a ha
  obtain ⟨-, -, b2, b3, b4, b5, b6, -⟩ := ok.1 b hb
  have ha4 : c.1 12 a = nI (S (27 + 6 * a)) := (h.1 a ha).2.2.2.1
  have hb4 : c.1 12 b = nI (S (27 + 6 * b)) := (h.1 b hb).2.2.2.1
  unfold fX7_doPiecesMeet zp_meet
  rw [zc_endOf h ok ha, zc_endOf h ok hb]
  rcases zc_has h ok ha with ⟨e, e2⟩ | ⟨e, e2⟩
  · rw [e2, if_neg (by decide)]
    rcases zc_has h ok hb with ⟨f, f2⟩ | ⟨f, f2⟩
    · rw [f2, if_neg (by decide), if_pos e, if_pos f, nI_clamp (n := a) (by omega), nI_clamp (n := b) (by omega), zc_begin h ha, zc_begin h hb, ha4, hb4, pk_sub a5, pk_sub b5]
      by_cases c : S (25 + 6 * a) - S (27 + 6 * a) < S (25 + 6 * b) + S (26 + 6 * b)
      · rw [if_neg (nI_ge c (by omega))]
        by_cases d : S (25 + 6 * b) - S (27 + 6 * b) < S (25 + 6 * a) + S (26 + 6 * a)
        · rw [if_neg (nI_ge d (by omega))]
          exact .inl ⟨⟨e, f, c, d⟩, rfl⟩
        · rw [if_pos (nI_le (Nat.le_of_not_lt d) (by omega))]
          exact .inr ⟨fun z => d z.2.2.2, rfl⟩
      · rw [if_pos (nI_le (Nat.le_of_not_lt c) (by omega))]
        exact .inr ⟨fun z => c z.2.2.1, rfl⟩
    · rw [f2, if_pos rfl]
      exact .inr ⟨fun z => f z.2.1, rfl⟩
  · rw [e2, if_pos rfl]
    exact .inr ⟨fun z => e z.1, rfl⟩
theorem zc_foes (h : zr_prog c 1 S) (ok : zo_prog S) {a b : Nat} (ha : a < 16) (hb : b < 16) : ((zp_has S a ∧ zp_has S b ∧ zp_clash S a b) ∧ fX7_areFoes c (nI a) (nI b) = 1) ∨ (¬ (zp_has S a ∧ zp_has S b ∧ zp_clash S a b) ∧ fX7_areFoes c (nI a) (nI b) = 0) := by
  obtain ⟨-, a1, -, -, -, -, -, a7, -⟩ := ok.1 a ha
  obtain ⟨-, b1, -, -, -, -, -, b7, -⟩ := ok.1 b hb
  have ha9 : c.1 9 a = nI (S (24 + 6 * a)) := (h.1 a ha).1
  have hb9 : c.1 9 b = nI (S (24 + 6 * b)) := (h.1 b hb).1
  have ha13 : c.1 13 a = nI (if S (23 + 6 * a) = 1 then S (28 + 6 * a) else 0) := (h.1 a ha).2.2.2.2
  have hb13 : c.1 13 b = nI (if S (23 + 6 * b) = 1 then S (28 + 6 * b) else 0) := (h.1 b hb).2.2.2.2
  unfold fX7_areFoes zp_clash
  rcases zc_meet h ok ha hb with ⟨⟨e, f, g⟩, e2⟩ | ⟨e, e2⟩
  · rw [e2, if_neg (by decide), nI_clamp (n := a) (by omega), nI_clamp (n := b) (by omega), ha9, hb9, ha13, hb13, if_pos e, if_pos f]
    by_cases c : S (24 + 6 * a) = S (24 + 6 * b)
    · rw [c, if_pos rfl]
      exact .inl ⟨⟨e, f, g, .inl rfl⟩, rfl⟩
    · rw [if_neg (fun z => c ((nI_eq (by omega) (by omega)).mp z))]
      by_cases d : S (28 + 6 * a) &&& S (28 + 6 * b) = 0
      · rw [if_pos ((zn_and0 (by omega) (by omega)).mpr d)]
        exact .inr ⟨fun z => z.2.2.2.elim c (fun y => y d), rfl⟩
      · rw [if_neg (fun z => d ((zn_and0 (by omega) (by omega)).mp z))]
        exact .inl ⟨⟨e, f, g, .inr d⟩, rfl⟩
  · rw [e2, if_pos rfl]
    exact .inr ⟨fun z => e ⟨z.1, z.2.1, z.2.2.1⟩, rfl⟩
/-- how much an act pleases -/
def zp_pl (S : Nat → Nat) (a : Nat) : Nat := rj_fo (fun v s => s + S (119 + 16 * v + a)) 12 0 0
theorem zp_pl_le (ok : zo_prog S) {a : Nat} (ha : a < 16) : zp_pl S a ≤ 108 := by
  have h := zf_inv (f := fun v s => s + S (119 + 16 * v + a)) (fun j s => s ≤ 9 * j) 12 0 0 (Nat.le_refl _) (fun j s _ h2 h3 => by
    have := (ok.2 j a (by omega) ha).1
    show s + S (119 + 16 * j + a) ≤ 9 * (j + 1)
    omega)
  exact h
theorem zc_pl (h : zr_prog c 1 S) (ok : zo_prog S) {a : Nat} (ha : a < 16) : fX7_pleasing c (nI a) = nI (zp_pl S a) := by
  unfold fX7_pleasing zp_pl
  exact zf_rel (fun _ x y => x = nI y) 12 0 (0 : Int32) (0 : Nat) rfl (fun i x y _ h2 hx => by
    unfold bX7_pleasing_4
    rw [zc_wish h ok (by omega) ha, hx, nI_add])
theorem zq_pl {r : rj_M} {B : Nat → Int} (h : zr_row (r.1 396) S B) {a : Nat} (ha : a < 16) : fX12_pleases r (nI a) = nI (zp_pl S a) := by
  unfold fX12_pleases zp_pl
  exact zf_rel (fun _ x y => x = nI y) 12 0 (0 : Int32) (0 : Nat) rfl (fun i x y _ h2 hx => by
    unfold bX12_pleases_4
    rw [zq_wish h (by omega) ha, hx, nI_add])
end zpCls
