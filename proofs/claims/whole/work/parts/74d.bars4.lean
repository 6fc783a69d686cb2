/-! BARS, the reference's side: what is asked -/
section zqBars
variable {r : rj_M} {S : Nat → Nat} {B : Nat → Int} {q : List Nat} {w : Nat → Nat}
theorem zq_lineOf (h : zr_row (r.1 396) S B) (hq : zr_line S q w) {b : Nat} (hb : b < 3) : fX12_lineOf r (nI b) = nI (zb_L q w b).length := by
  have e : (331 + (13 * nI b)).toNatClampNeg = 331 + 13 * b := pk_cl _ (by rw [show (331 : Int32) = nI 331 from rfl, show (13 : Int32) = nI 13 from rfl, pk_mul, nI_add]) (by omega)
  unfold fX12_lineOf
  rw [e, h.1 _ (by omega), (hq.2.2.2.2.1 b hb).1]
  rfl
theorem zq_inLine (h : zr_row (r.1 396) S B) (hq : zr_line S q w) {b k v : Nat} (hb : b < 3) (hk : (zb_L q w b)[k]? = some v) : fX12_inLine r (nI b) (nI k) = nI v := by
  have hl := zb_ln12 hq
  have hlb : (zb_L q w b).length ≤ 12 := Nat.le_trans zb_L_len hl
  have hkl := (List.getElem?_eq_some_iff.mp hk).1
  have e : (((331 + (13 * nI b)) + 1) + nI k).toNatClampNeg = 332 + 13 * b + k := pk_cl _ (by rw [show (331 : Int32) = nI 331 from rfl, show (13 : Int32) = nI 13 from rfl, pk_mul, nI_add, nI_1, nI_add]; exact congrArg nI (by omega)) (by omega)
  have h5 := (hq.2.2.2.2.1 b hb).2 k hkl
  have h6 : some v = some (S (332 + 13 * b + k)) := hk.symm.trans h5
  unfold fX12_inLine
  rw [e, h.1 _ (by omega), ← Option.some.inj h6]
/-- who stands where -/
theorem zb_pos (hq : zr_line S q w) {b k v : Nat} (hk : (zb_L q w b)[k]? = some v) : v < 12 ∧ w v = b + 1 := by
  have h1 := zb_L_mem.mp (List.mem_of_getElem? hk)
  exact ⟨hq.2.1 v h1.1, h1.2⟩
theorem zq_toN (h : zr_row (r.1 396) S B) (hq : zr_line S q w) {b : Nat} (hb : b < 3) (d : Nat) : (fX12_lineOf r (nI b)).toInt.toNat - d = (zb_L q w b).length - d := by
  have hl := zb_ln12 hq
  have hlb : (zb_L q w b).length ≤ 12 := Nat.le_trans zb_L_len hl
  rw [zq_lineOf h hq hb, nI_toInt (by omega), Int.toNat_natCast]
theorem zq_barOf (h : zr_row (r.1 396) S B) (hq : zr_line S q w) {v : Nat} (hv : v < 12) : fX12_barOf r (nI v) = nI (w v) - 1 ∧ qX12_barOf r (nI v) := by
  have hl := zb_ln12 hq
  have hv3 := hq.2.2.2.1 v hv
  have inner : ∀ b, b < 3 → (w v = b + 1 ∧ rj_ix (bX12_barOf_9 r (nI v) b ()) ((fX12_lineOf r (nI b)).toInt.toNat - 0) 0 () = .inr (nI b)) ∨ (w v ≠ b + 1 ∧ rj_ix (bX12_barOf_9 r (nI v) b ()) ((fX12_lineOf r (nI b)).toInt.toNat - 0) 0 () = .inl ()) := fun b hb => by
    have hlb : (zb_L q w b).length ≤ 12 := Nat.le_trans zb_L_len hl
    rw [zq_toN h hq hb, Nat.sub_zero]
    rcases zx_find (f := bX12_barOf_9 r (nI v) b ()) (fun k => (zb_L q w b)[k]? = some v) (fun _ => nI b) (zb_L q w b).length 0 (fun k _ hk => by
      have hk' : k < (zb_L q w b).length := by omega
      have hg := List.getElem?_eq_getElem hk'
      have hp := zb_pos hq hg
      unfold bX12_barOf_9
      rw [zq_inLine h hq hb hg, hg]
      by_cases c : (zb_L q w b)[k] = v
      · rw [if_pos (by rw [c])]
        exact .inl ⟨by rw [c], rfl⟩
      · rw [if_neg (fun z => c ((nI_eq (by omega) (by omega)).mp z))]
        exact .inr ⟨fun z => c (Option.some.inj z), rfl⟩) with ⟨k, k1, k2, k3, k4, k5⟩ | ⟨k1, k2⟩
    · exact .inl ⟨(zb_pos hq k3).2, k5⟩
    · refine .inr ⟨fun z => ?_, k2⟩
      have hm : v ∈ zb_L q w b := zb_L_mem.mpr ⟨(hq.2.2.1 v hv).mpr (by omega), z⟩
      obtain ⟨k, hk⟩ := List.getElem?_of_mem hm
      exact k1 k (Nat.zero_le _) (by have := (List.getElem?_eq_some_iff.mp hk).1; omega) hk
  constructor
  · unfold fX12_barOf
    rcases zx_find (f := bX12_barOf_2 r (nI v)) (fun b => w v = b + 1) (fun b => nI b) 3 0 (fun b _ hb => by
      unfold bX12_barOf_2
      rcases inner b (by omega) with ⟨e1, e2⟩ | ⟨e1, e2⟩
      · rw [e2]
        exact .inl ⟨e1, rfl⟩
      · rw [e2]
        exact .inr ⟨e1, rfl⟩) with ⟨b, b1, b2, b3, b4, b5⟩ | ⟨b1, b2⟩
    · rw [b5, b3]
      exact (nI_pred b).symm
    · rw [b2]
      have : w v = 0 := by
        rcases (show w v = 0 ∨ w v = 1 ∨ w v = 2 ∨ w v = 3 by omega) with z | z | z | z
        · exact z
        · exact absurd z (b1 0 (by omega) (by omega))
        · exact absurd z (b1 1 (by omega) (by omega))
        · exact absurd z (b1 2 (by omega) (by omega))
      rw [this]
      rfl
  · refine ⟨fun _ => ra_ix_i (zx_q (fun _ _ => True) 3 0 () trivial (fun b _ _ hb _ => ⟨⟨fun _ => ra_ix_i ?_, trivial⟩, fun _ _ => trivial⟩)), trivial⟩
    rw [zq_toN h hq (by omega), Nat.sub_zero]
    refine zx_q (fun _ _ => True) _ 0 () trivial (fun k _ _ hk _ => ⟨⟨?_, trivial⟩, fun _ _ => trivial⟩)
    have hlb := zb_L_len (q := q) (w := w) (b := b)
    exact vp_in_nI (by omega) (by decide)
theorem zq_waitAt (h : zr_row (r.1 396) S B) {b i : Nat} (hb : b < 3) (hi : i < 12) : fX12_waitAt r (nI b) (nI i) = nI (zb_wt S b i) := by
  have e : (370 + nI b).toNatClampNeg = 370 + b := pk_cl _ (by rw [show (370 : Int32) = nI 370 from rfl, nI_add]) (by omega)
  have e2 : (330 : Int32).toNatClampNeg = 330 := by decide
  unfold fX12_waitAt zb_wt
  rw [e, e2, h.1 (370 + b) (by omega), h.1 330 (by decide)]
  by_cases c : i = 0
  · rw [if_pos (by rw [c]; rfl), if_pos c]
    rfl
  · rw [if_neg (nI_ne0 (by omega) (by omega)), if_neg c, zb_pred (by omega), pk_mul, nI_add]
theorem zq_waitNow (h : zr_row (r.1 396) S B) (hq : zr_line S q w) {v i : Nat} (hv : v < 12) (hw : w v ≠ 0) (hi : (zb_L q w (w v - 1))[i]? = some v) : fX12_waitNow r (nI v) = nI (zb_wt S (w v - 1) i) ∧ qX12_waitNow r (nI v) := by
  have hl := zb_ln12 hq
  have hv3 := hq.2.2.2.1 v hv
  have hb : w v - 1 < 3 := by omega
  have hlb : (zb_L q w (w v - 1)).length ≤ 12 := Nat.le_trans zb_L_len hl
  have hil := (List.getElem?_eq_some_iff.mp hi).1
  obtain ⟨b1, b2⟩ := zq_barOf h hq hv
  rw [zb_pred (show 1 ≤ w v by omega)] at b1
  have nb : ¬ nI (w v - 1) = -1 := fun z => by
    have h1 : ¬ nI (w v - 1) < 0 := nI_pos (by omega)
    rw [z] at h1
    exact absurd (by decide) h1
  obtain ⟨s1, s2⟩ := zw_first (f := bX12_waitNow_8 r (nI v)) (q := qX12_waitNow_8 r (nI v)) (p := fun k => (zb_L q w (w v - 1))[k]? = some v) (k := i) hi (fun j hj hc => by
    have := (List.getElem?_inj hil (zb_L_nodup hq.1)).mp (hi.trans hc.symm)
    omega) (fun j hj => by
    have hjl : j < (zb_L q w (w v - 1)).length := by omega
    have hg := List.getElem?_eq_getElem hjl
    have hp := zb_pos hq hg
    unfold bX12_waitNow_8
    rw [b1, if_neg nb, zq_inLine h hq hb hg, hg]
    by_cases c : (zb_L q w (w v - 1))[j] = v
    · rw [if_pos (by rw [c])]
      exact .inl ⟨by rw [c], rfl⟩
    · rw [if_neg (fun z => c ((nI_eq (by omega) (by omega)).mp z))]
      exact .inr ⟨fun z => c (Option.some.inj z), rfl⟩) (fun j hj => by
    unfold qX12_waitNow_8
    rw [b1]
    exact ⟨fun _ => trivial, fun _ => ⟨vp_in_nI hb (by decide), vp_in_nI (by omega) (by decide), trivial⟩⟩) 14 0 (Nat.zero_le _) (by omega)
  unfold fX12_waitNow qX12_waitNow
  rw [show nI 0 = (0 : Int32) from rfl] at s1 s2
  rw [b1, if_neg nb, s1]
  exact ⟨zq_waitAt h hb (by omega), b2, fun _ => by rw [ra_we_eq]; exact s2, fun _ => trivial, fun _ => ⟨vp_in_nI hb (by decide), trivial⟩⟩
theorem zq_waitNow0 (h : zr_row (r.1 396) S B) (hq : zr_line S q w) {v : Nat} (hv : v < 12) (hw : w v = 0) : fX12_waitNow r (nI v) = -1 ∧ qX12_waitNow r (nI v) := by
  obtain ⟨b1, b2⟩ := zq_barOf h hq hv
  rw [hw, show nI 0 - 1 = (-1 : Int32) from by decide] at b1
  have e : bX12_waitNow_8 r (nI v) 0 = .inr 0 := by
    unfold bX12_waitNow_8
    rw [b1]
    exact if_pos rfl
  unfold fX12_waitNow qX12_waitNow
  rw [b1, if_pos rfl]
  refine ⟨rfl, b2, fun _ => ?_, fun _ => trivial, fun z => absurd rfl z⟩
  rw [ra_we_eq]
  refine ⟨?_, ?_⟩
  · unfold qX12_waitNow_8
    rw [b1]
    exact ⟨fun _ => trivial, fun z => absurd rfl z⟩
  · rw [e]
    trivial
theorem zq_sumLines (h : zr_row (r.1 396) S B) (hq : zr_line S q w) {nn : Nat} (ok : zo_bars S nn) : fX12_waitsInLines r = nI (zb_sum (zb_g S q w) q) := by
  have hl := zb_ln12 hq
  rw [zb_three q (fun v hv => (zb_wv hq hv).2)]
  have line : ∀ b, b < 3 → ∀ x : Nat, rj_fo (bX12_waitsInLines_11 r b (nI x)) ((fX12_lineOf r (nI b)).toInt.toNat - 0) 0 (nI x) = nI (zb_sum (zb_g S q w) (zb_L q w b) + x) := fun b hb x => by
    have hlb : (zb_L q w b).length ≤ 12 := Nat.le_trans zb_L_len hl
    rw [zq_toN h hq hb, Nat.sub_zero, zb_sum_idx (g := zb_g S q w) (f := fun k => zb_wt S b k) (zb_L q w b) 0 (fun i v hi => by
      obtain ⟨p1, p2⟩ := zb_pos hq hi
      unfold zb_g
      rw [p2, Nat.add_sub_cancel, zb_idx (zb_L_nodup hq.1) hi, Nat.zero_add]) x]
    refine zf_rel (fun _ a c => a = nI c) _ 0 (nI x) x rfl (fun j a c _ hj hac => ?_)
    subst hac
    unfold bX12_waitsInLines_11
    rw [zq_waitAt h hb (by omega), nI_add]
  unfold fX12_waitsInLines
  have hz := zf_inv (f := bX12_waitsInLines_4 r) (fun n x => x = nI ((if 0 < n then zb_sum (zb_g S q w) (zb_L q w 0) else 0) + (if 1 < n then zb_sum (zb_g S q w) (zb_L q w 1) else 0) + (if 2 < n then zb_sum (zb_g S q w) (zb_L q w 2) else 0))) 3 0 (0 : Int32) rfl (fun n x _ hn hx => by
    subst hx
    unfold bX12_waitsInLines_4
    rw [line n (by omega)]
    refine congrArg nI ?_
    rcases (show n = 0 ∨ n = 1 ∨ n = 2 by omega) with rfl | rfl | rfl <;> simp <;> omega)
  rw [hz]
  rfl
end zqBars
