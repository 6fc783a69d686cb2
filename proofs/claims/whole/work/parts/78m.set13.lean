/-! join, both sides -/
noncomputable def zj_2 (K : rj_M) (a0 a1 : Int32) : rj_M := rj_pi K 396 (((331 + (13 * a0)) + 1) + (fX12_lineOf K a0)).toNatClampNeg a1
noncomputable def zj_3 (K : rj_M) (a0 : Int32) : rj_M := rj_pi K 396 (331 + (13 * a0)).toNatClampNeg ((K.1 396 (331 + (13 * a0)).toNatClampNeg) + 1)
noncomputable def zj_4 (K : rj_M) : rj_M := rj_pi K 396 (385 : Int32).toNatClampNeg ((K.1 396 (385 : Int32).toNatClampNeg) + 1)
noncomputable def zj_5 (K : rj_M) (a1 : Int32) : rj_M := rj_pi K 396 (373 + a1).toNatClampNeg (K.1 396 (385 : Int32).toNatClampNeg)
noncomputable def zj_1 (K : rj_M) (a0 : Int32) : rj_M := rj_pi K 396 (370 + a0).toNatClampNeg (K.1 396 (330 : Int32).toNatClampNeg)
noncomputable def zj (K : rj_M) (a0 a1 : Int32) : rj_M := zj_5 (zj_4 (zj_3 (zj_2 K a0 a1) a0)) a1
theorem zj_m {r : rj_M} {a0 a1 : Int32} : mX12_join r a0 a1 = if (fX12_isBar r a0) = 0 then (mX12_lacksF r) else (if (fX12_isVisitor r a1) = 0 then (mX12_lacksF r) else (if (fX12_barOf (mX12_lacksT r) a1) = (-1) then (if (fX12_lineOf (mX12_keeps (mX12_lacksT r)) a0) = 0 then zj (zj_1 (mX12_keeps (mX12_lacksT r)) a0) a0 a1 else zj (mX12_keeps (mX12_lacksT r)) a0 a1) else (mX12_noF (mX12_lacksT r) 2))) := rfl
theorem zj_f {r : rj_M} {a0 a1 : Int32} : fX12_join r a0 a1 = if (fX12_isBar r a0) = 0 then 0 else (if (fX12_isVisitor r a1) = 0 then 0 else (if (fX12_barOf (mX12_lacksT r) a1) = (-1) then (if (fX12_lineOf (mX12_keeps (mX12_lacksT r)) a0) = 0 then fX12_waitNow (zj (zj_1 (mX12_keeps (mX12_lacksT r)) a0) a0 a1) a1 else fX12_waitNow (zj (mX12_keeps (mX12_lacksT r)) a0 a1) a1) else 0)) := rfl
theorem zj_q {r : rj_M} {a0 a1 : Int32} : qX12_join r a0 a1 = ((((fX12_isBar r a0) = 0) → True) ∧ ((¬ ((fX12_isBar r a0) = 0)) → ((((fX12_isVisitor r a1) = 0) → True) ∧ ((¬ ((fX12_isVisitor r a1) = 0)) → (qX12_barOf (mX12_lacksT r) a1 ∧ ((((fX12_barOf (mX12_lacksT r) a1) = (-1)) → (qX12_keeps (mX12_lacksT r) ∧ ((((fX12_lineOf (mX12_keeps (mX12_lacksT r)) a0) = 0) → (vp_in (((331 + (13 * a0)) + 1) + (fX12_lineOf (zj_1 (mX12_keeps (mX12_lacksT r)) a0) a0)) 625 ∧ qX12_waitNow (zj (zj_1 (mX12_keeps (mX12_lacksT r)) a0) a0 a1) a1 ∧ True)) ∧ ((¬ ((fX12_lineOf (mX12_keeps (mX12_lacksT r)) a0) = 0)) → (vp_in (((331 + (13 * a0)) + 1) + (fX12_lineOf (mX12_keeps (mX12_lacksT r)) a0)) 625 ∧ qX12_waitNow (zj (mX12_keeps (mX12_lacksT r)) a0 a1) a1 ∧ True))))) ∧ ((¬ ((fX12_barOf (mX12_lacksT r) a1) = (-1))) → True))))))) := rfl
theorem zj_row {K : rj_M} {S : Nat → Nat} {B : Nat → Int} {b v : Nat} (h : zr_row (K.1 396) S B) (hb : b < 3) (hv : v < 12) (hl : S (331 + 13 * b) ≤ 11) : zr_row ((zj K (nI b) (nI v)).1 396) (zg_up (zg_up (zg_up (zg_up S (332 + 13 * b + S (331 + 13 * b)) v) (331 + 13 * b) (S (331 + 13 * b) + 1)) 385 (S 385 + 1)) (373 + v) (S 385 + 1)) B ∧ (∀ k, k ≠ 396 → (zj K (nI b) (nI v)).1 k = K.1 k) ∧ (zj K (nI b) (nI v)).2 = K.2 ∧ vp_in (((331 + (13 * nI b)) + 1) + (fX12_lineOf K (nI b))) 625 := by
  have q331 : (331 : Int32) + 13 * nI b = nI (331 + 13 * b) := by rw [show 13 * nI b = nI (13 * b) from pk_mul 13 b, show (331 : Int32) = nI 331 from rfl, nI_add]
  have q373 : (373 : Int32) + nI v = nI (373 + v) := by rw [show (373 : Int32) = nI 373 from rfl, nI_add]
  have hlo : fX12_lineOf K (nI b) = nI (S (331 + 13 * b)) := by
    unfold fX12_lineOf
    rw [q331, nI_clamp (by omega)]
    exact h.1 _ (by omega)
  have q332 : (331 : Int32) + 13 * nI b + 1 + fX12_lineOf K (nI b) = nI (332 + 13 * b + S (331 + 13 * b)) := by
    rw [hlo, q331, nI_1, nI_add]
    congr 1
    omega
  have r2 : zj_2 K (nI b) (nI v) = rj_pi K 396 (332 + 13 * b + S (331 + 13 * b)) (nI v) := by
    unfold zj_2
    rw [q332, nI_clamp (by omega)]
  have s2 : zr_row ((zj_2 K (nI b) (nI v)).1 396) (zg_up S (332 + 13 * b + S (331 + 13 * b)) v) B := by
    rw [r2]
    exact zr_pi2 h (by omega) rfl
  have n2 : ∀ k, k ≠ 396 → (zj_2 K (nI b) (nI v)).1 k = K.1 k := fun k hk => by rw [r2, zm_pi_ne hk]
  have m2 : (zj_2 K (nI b) (nI v)).2 = K.2 := by rw [r2]; rfl
  refine ⟨?_, ?_, ?_, by rw [q332]; exact vp_in_nI (by omega) (by decide)⟩
  all_goals unfold zj
  all_goals generalize zj_2 K (nI b) (nI v) = K2 at s2 n2 m2 ⊢
  · have r3 : zj_3 K2 (nI b) = rj_pi K2 396 (331 + 13 * b) (nI (S (331 + 13 * b) + 1)) := by
      unfold zj_3
      rw [q331, nI_clamp (by omega), s2.1 _ (by omega), zg_up_ne (by omega), nI_1]
    have s3 : zr_row ((zj_3 K2 (nI b)).1 396) (zg_up (zg_up S (332 + 13 * b + S (331 + 13 * b)) v) (331 + 13 * b) (S (331 + 13 * b) + 1)) B := by
      rw [r3]
      exact zr_pi2 s2 (by omega) rfl
    generalize zj_3 K2 (nI b) = K3 at s3 ⊢
    have r4 : zj_4 K3 = rj_pi K3 396 385 (nI (S 385 + 1)) := by
      unfold zj_4
      rw [show (385 : Int32).toNatClampNeg = 385 from rfl, s3.1 _ (by omega), zg_up_ne (by omega), zg_up_ne (by omega), nI_1]
    have s4 : zr_row ((zj_4 K3).1 396) (zg_up (zg_up (zg_up S (332 + 13 * b + S (331 + 13 * b)) v) (331 + 13 * b) (S (331 + 13 * b) + 1)) 385 (S 385 + 1)) B := by
      rw [r4]
      exact zr_pi2 s3 (by omega) rfl
    generalize zj_4 K3 = K4 at s4 ⊢
    unfold zj_5
    rw [q373, nI_clamp (by omega), show (385 : Int32).toNatClampNeg = 385 from rfl]
    exact zr_pi2 s4 (by omega) (by rw [s4.1 385 (by decide), zg_up_eq])
  · intro k hk
    unfold zj_5 zj_4 zj_3
    rw [zm_pi_ne hk, zm_pi_ne hk, zm_pi_ne hk]
    exact n2 k hk
  · unfold zj_5 zj_4 zj_3
    exact m2
section zs14
variable {c r : rj_M} {a0 a1 : Int32} {n : Nat} {S : Nat → Nat} {B : Nat → Int} {b v : Nat}
theorem zb_inS_id {k : Nat} (hb : b < 3) (hv : v < 12) (hl : S (331 + 13 * b) ≤ 11) (hk : k < 331 ∨ (370 ≤ k ∧ k < 373) ∨ 386 ≤ k) (hk2 : k ≠ 370 + b) : zb_inS S b v k = S k := by
  unfold zb_inS
  rw [if_neg (by omega), if_neg (by omega), if_neg (by omega), if_neg (by omega), if_neg (by omega)]
theorem zb_inS_370 (hb : b < 3) (hv : v < 12) (hl : S (331 + 13 * b) ≤ 11) : zb_inS S b v (370 + b) = if S (331 + 13 * b) = 0 then S 330 else S (370 + b) := by
  unfold zb_inS
  rw [if_neg (by omega), if_neg (by omega), if_neg (by omega), if_neg (by omega)]
  by_cases e : S (331 + 13 * b) = 0
  · rw [if_pos ⟨rfl, e⟩, if_pos e]
  · rw [if_neg (fun z => e z.2), if_neg e]
theorem zb_inS_len {b' : Nat} (hb : b < 3) (hb' : b' < 3) (hv : v < 12) (hl : S (331 + 13 * b) ≤ 11) (hne : b' ≠ b) : zb_inS S b v (331 + 13 * b') = S (331 + 13 * b') := by
  unfold zb_inS
  rw [if_neg (by omega), if_neg (by omega), if_neg (by omega), if_neg (by omega), if_neg (by omega)]
theorem zb_inS_ok (hb : b < 3) (hv : v < 12) (hl : S (331 + 13 * b) ≤ 11) (ok : zo_bars S n) : zo_bars (zb_inS S b v) (n + 1) := by
  obtain ⟨p1, p2, p3, p4, p5, p6⟩ := ok
  refine ⟨?_, ?_, fun k hk => ?_, ?_, ?_, fun b' hb' hpos => ?_⟩
  · rw [zb_inS_id hb hv hl (by omega) (by omega)]
    exact p1
  · rw [zb_inS_id hb hv hl (by omega) (by omega)]
    exact p2
  · have := p3 k hk
    by_cases e : k = b
    · subst e
      rw [zb_inS_370 hb hv hl]
      split <;> omega
    · rw [zb_inS_id hb hv hl (by omega) (by omega)]
      exact this
  · have : zb_inS S b v 385 = S 385 + 1 := by
      unfold zb_inS
      rw [if_neg (by omega), if_pos rfl]
    rw [this]
    omega
  · rw [zb_inS_id hb hv hl (by omega) (by omega)]
    omega
  · by_cases e : b' = b
    · subst e
      have := p6 b' hb
      rw [zb_inS_370 hb hv hl]
      split
      · omega
      · exact this (by omega)
    · rw [zb_inS_len hb hb' hv hl e] at hpos
      rw [zb_inS_id hb hv hl (by omega) (by omega)]
      exact p6 b' hb' hpos
theorem zj_eq (hb : b < 3) (hv : v < 12) (hl : S (331 + 13 * b) ≤ 11) (k : Nat) : zb_inS S b v k = zg_up (zg_up (zg_up (zg_up (if S (331 + 13 * b) = 0 then zg_up S (370 + b) (S 330) else S) (332 + 13 * b + S (331 + 13 * b)) v) (331 + 13 * b) (S (331 + 13 * b) + 1)) 385 (S 385 + 1)) (373 + v) (S 385 + 1) k := by
  show _ = if k = 373 + v then S 385 + 1 else if k = 385 then S 385 + 1 else if k = 331 + 13 * b then S (331 + 13 * b) + 1 else if k = 332 + 13 * b + S (331 + 13 * b) then v else (if S (331 + 13 * b) = 0 then zg_up S (370 + b) (S 330) else S) k
  unfold zb_inS
  by_cases e1 : k = 373 + v
  · rw [if_pos e1, if_pos e1]
  rw [if_neg e1, if_neg e1]
  by_cases e2 : k = 385
  · rw [if_pos e2, if_pos e2]
  rw [if_neg e2, if_neg e2]
  by_cases e3 : k = 331 + 13 * b
  · rw [if_pos e3, if_pos e3, e3]
  rw [if_neg e3, if_neg e3]
  by_cases e4 : k = 332 + 13 * b + S (331 + 13 * b)
  · rw [if_pos e4, if_pos e4]
  rw [if_neg e4, if_neg e4]
  by_cases e5 : S (331 + 13 * b) = 0
  · rw [if_pos e5]
    show _ = if k = 370 + b then S 330 else S k
    by_cases e6 : k = 370 + b
    · rw [if_pos ⟨e6, e5⟩, if_pos e6]
    · rw [if_neg (fun z => e6 z.1), if_neg e6]
  · rw [if_neg e5, if_neg (fun z => e5 z.2)]
theorem zj_all {K : rj_M} (h : zr_row (K.1 396) S B) (hb : b < 3) (hv : v < 12) (hl : S (331 + 13 * b) ≤ 11) : zr_row ((if (fX12_lineOf K (nI b)) = 0 then zj (zj_1 K (nI b)) (nI b) (nI v) else zj K (nI b) (nI v)).1 396) (zb_inS S b v) B ∧ (∀ k, k ≠ 396 → (if (fX12_lineOf K (nI b)) = 0 then zj (zj_1 K (nI b)) (nI b) (nI v) else zj K (nI b) (nI v)).1 k = K.1 k) ∧ (if (fX12_lineOf K (nI b)) = 0 then zj (zj_1 K (nI b)) (nI b) (nI v) else zj K (nI b) (nI v)).2 = K.2 ∧ (fX12_lineOf K (nI b) = 0 → vp_in (((331 + (13 * nI b)) + 1) + (fX12_lineOf (zj_1 K (nI b)) (nI b))) 625) ∧ (¬ fX12_lineOf K (nI b) = 0 → vp_in (((331 + (13 * nI b)) + 1) + (fX12_lineOf K (nI b))) 625) := by
  have q331 : (331 : Int32) + 13 * nI b = nI (331 + 13 * b) := by rw [show 13 * nI b = nI (13 * b) from pk_mul 13 b, show (331 : Int32) = nI 331 from rfl, nI_add]
  have q370 : (370 : Int32) + nI b = nI (370 + b) := by rw [show (370 : Int32) = nI 370 from rfl, nI_add]
  have hlo : fX12_lineOf K (nI b) = nI (S (331 + 13 * b)) := by
    unfold fX12_lineOf
    rw [q331, nI_clamp (by omega)]
    exact h.1 _ (by omega)
  have he := zj_eq (S := S) hb hv hl
  by_cases e : S (331 + 13 * b) = 0
  · have e' : fX12_lineOf K (nI b) = 0 := by rw [hlo, e]; rfl
    have r1 : zj_1 K (nI b) = rj_pi K 396 (370 + b) (nI (S 330)) := by
      unfold zj_1
      rw [q370, nI_clamp (by omega), show (330 : Int32).toNatClampNeg = 330 from rfl, h.1 330 (by decide)]
    have s1 : zr_row ((zj_1 K (nI b)).1 396) (zg_up S (370 + b) (S 330)) B := by
      rw [r1]
      exact zr_pi2 h (by omega) rfl
    have u1 : zg_up S (370 + b) (S 330) (331 + 13 * b) = S (331 + 13 * b) := zg_up_ne (by omega)
    have u2 : zg_up S (370 + b) (S 330) 385 = S 385 := zg_up_ne (by omega)
    obtain ⟨j1, j2, j3, j4⟩ := zj_row s1 hb hv (by rw [u1]; exact hl)
    rw [u1, u2] at j1
    rw [if_pos e]  at he
    rw [if_pos e']
    exact ⟨zr_iff j1 he, fun k hk => (j2 k hk).trans (by rw [r1, zm_pi_ne hk]), j3.trans (by rw [r1]; rfl), fun _ => j4, fun z => absurd e' z⟩
  · have e' : ¬ fX12_lineOf K (nI b) = 0 := by
      rw [hlo]
      exact nI_ne0 (by omega) (by omega)
    obtain ⟨j1, j2, j3, j4⟩ := zj_row h hb hv hl
    rw [if_neg e] at he
    rw [if_neg e']
    exact ⟨zr_iff j1 he, j2, j3, fun z => absurd z e', fun _ => j4⟩
theorem zo_join (h : zi_I n c r) : zo_out ["java/lang/IndexOutOfBoundsException", "java/lang/IllegalStateException"] (fX11_join c a0 a1) ((mX12_join r a0 a1).1 395 0) (fX12_join r a0 a1) ∧ zi_op n c (mX11_join c a0 a1) r (mX12_join r a0 a1) ∧ qX11_join c a0 a1 ∧ qX12_join r a0 a1 := by
  have h0 := h
  obtain ⟨s, L, G, h1, h2, ok⟩ := h0
  have n10 : ¬ (1 : Int32) = 0 := by decide
  unfold fX11_join mX11_join qX11_join
  rw [zj_m, zj_f, zj_q]
  have hB : fX12_isBar r a0 = fX12_in r a0 0 2 := rfl
  have hV : fX12_isVisitor r a1 = fX12_in r a1 0 11 := rfl
  rw [hB, hV]
  rcases zn_p2 (μ := c) (ν := r) (a := a0) (c := 3) (d := 2) (n := 2) rfl rfl (by decide) with ⟨e1, e2, b, hb, rfl⟩ | ⟨e1, e2⟩
  · rw [e1, e2, if_neg n10, if_neg n10, zm_bmn]
    rcases zn_p2 (μ := c) (ν := r) (a := a1) (c := 12) (d := 11) (n := 11) rfl rfl (by decide) with ⟨e3, e4, v, hv, rfl⟩ | ⟨e3, e4⟩
    · rw [e3, e4, if_neg n10, if_neg n10, zm_bmn]
      obtain ⟨q, w, hq, hc⟩ := h1.1.2.2.2.2.1
      have hc : zb_c c s.1 q w := hc
      have hT := zi_r_rst h2 (zo_rst_of (zo_stillT (r := r)))
      obtain ⟨t1, t2⟩ := zq_barOf hT.1 hq hv
      have hw3 := hq.2.2.2.1 v hv
      have hbc := zc_barOf hc hv
      have hm := (zn_m1 (s := w v) (by omega)).1
      rw [hbc, t1]
      by_cases cw : w v = 0
      · have hk := zi_keeps hT
        have hbg := zi_begin h1 ok.1.2.1
        have hl := zb_in_line hq hb hv cw
        have hl12 := zb_ln12 hl
        rw [List.length_append] at hl12
        have hlen : s.1 (331 + 13 * b) = (zb_L q w b).length := (hq.2.2.2.2.1 b hb).1
        have hlb := zb_L_len (q := q) (w := w) (b := b)
        have h11 : s.1 (331 + 13 * b) ≤ 11 := by
          have : [v].length = 1 := rfl
          omega
        rw [if_pos (hm.mpr cw), if_pos (hm.mpr cw), if_pos (hm.mpr cw), if_pos (hm.mpr cw), if_pos (hm.mpr cw)]
        obtain ⟨j1, j2, j3, j4, j5⟩ := zj_all hk.2.1.1 hb hv h11
        have hmem : (if fX12_lineOf (mX12_keeps (mX12_lacksT r)) (nI b) = 0 then fX12_waitNow (zj (zj_1 (mX12_keeps (mX12_lacksT r)) (nI b)) (nI b) (nI v)) (nI v) else fX12_waitNow (zj (mX12_keeps (mX12_lacksT r)) (nI b) (nI v)) (nI v)) = fX12_waitNow (if fX12_lineOf (mX12_keeps (mX12_lacksT r)) (nI b) = 0 then zj (zj_1 (mX12_keeps (mX12_lacksT r)) (nI b)) (nI b) (nI v) else zj (mX12_keeps (mX12_lacksT r)) (nI b) (nI v)) (nI v) := by
          split <;> rfl
        rw [hmem]
        have hww : zb_w w v (b + 1) v = b + 1 := zb_w_eq
        obtain ⟨i, hi⟩ : ∃ i, (zb_L (q ++ [v]) (zb_w w v (b + 1)) (zb_w w v (b + 1) v - 1))[i]? = some v := List.mem_iff_getElem?.mp (zb_L_mem.mpr ⟨(hl.2.2.1 v hv).mpr (by omega), by omega⟩)
        have w1 := zq_waitNow j1 hl hv (by omega) hi
        have hq1 : qX12_waitNow (if fX12_lineOf (mX12_keeps (mX12_lacksT r)) (nI b) = 0 then zj (zj_1 (mX12_keeps (mX12_lacksT r)) (nI b)) (nI b) (nI v) else zj (mX12_keeps (mX12_lacksT r)) (nI b) (nI v)) (nI v) := w1.2
        have hc1 : zb_c (mX11_beginChange c) s.1 q w := zb_c_of hc (hbg.2.2.2.1 21 (by decide) (by decide) (by decide)) (hbg.2.2.2.1 22 (by decide) (by decide) (by decide)) (hbg.2.2.2.1 23 (by decide) (by decide) (by decide)) (hbg.2.2.2.1 24 (by decide) (by decide) (by decide))
        obtain ⟨m1, m2, m3⟩ := zc_enter hc1 hq hb hv cw
        have w2 := zc_till m1 hl hv (by omega) hi
        obtain ⟨c1, c2, c3, c4⟩ := zi_gen (S' := zb_inS s.1 b v) (B' := s.2) (t := mX0_enter (mX11_beginChange c) (nI b) (nI v)) (u := if fX12_lineOf (mX12_keeps (mX12_lacksT r)) (nI b) = 0 then zj (zj_1 (mX12_keeps (mX12_lacksT r)) (nI b)) (nI b) (nI v) else zj (mX12_keeps (mX12_lacksT r)) (nI b) (nI v)) h1 h2 ok (fun x hx hm' => by
          subst hx
          exact ⟨zr_momB hm' (fun k hk => m2 k (by omega) (by omega) (by omega) (by omega)) m3 (fun x hx => zb_inS_id hb hv h11 (by omega) (by omega)) ⟨_, _, hl, m1⟩, fun k hk => ⟨m2 k (by omega) (by omega) (by omega) (by omega), by rw [m3]⟩, by rw [m3]⟩) (fun x hx hm' => by
          subst hx
          exact ⟨j1, fun k e1 e2 => j2 k e2, fun i _ => congrFun (j2 395 (by decide)) i, j3⟩) (zo_okB ok.1 (fun x hx => zb_inS_id hb hv h11 (by omega) (by omega)) (zb_inS_ok hb hv h11 ok.1.2.2.2.2.1))
        rw [c3, w1.1]
        refine ⟨⟨rfl, w2.symm⟩, c4, ⟨c1, trivial⟩, fun _ => trivial, fun _ => ⟨fun _ => trivial, fun _ => ⟨t2, fun _ => ⟨c2, fun z => ⟨j4 z, ?_, trivial⟩, fun z => ⟨j5 z, ?_, trivial⟩⟩, fun _ => trivial⟩⟩⟩
        · rw [if_pos z] at hq1
          exact hq1
        · rw [if_neg z] at hq1
          exact hq1
      · have hne : ¬ nI (w v) - 1 = -1 := fun z => cw (hm.mp z)
        rw [if_neg hne, if_neg hne, if_neg hne, if_neg hne, if_neg hne, zm_F2]
        exact ⟨zh_2 (by decide), zi_query h zo_cst_rfl (zo_rst_of zo_stillF2), trivial, fun _ => trivial, fun _ => ⟨fun _ => trivial, fun _ => ⟨t2, fun z => absurd z hne, fun _ => trivial⟩⟩⟩
    · rw [e3, e4, if_pos rfl, if_pos rfl, zm_bms, zm_F]
      exact ⟨zh_1, zi_query h zo_cst_rfl (zo_rst_of zo_stillF), trivial, fun _ => trivial, fun _ => ⟨fun _ => trivial, fun z => absurd rfl z⟩⟩
  · rw [e1, e2, if_pos rfl, if_pos rfl, zm_bms, zm_F]
    exact ⟨zh_1, zi_query h zo_cst_rfl (zo_rst_of zo_stillF), trivial, fun _ => trivial, fun z => absurd rfl z⟩
end zs14
