/-! leave, pass, both sides -/
theorem zb_outS_id {S : Nat → Nat} {b i k : Nat} (hb : b < 3) (hl : S (331 + 13 * b) ≤ 12) (hk : k < 331 ∨ 370 ≤ k) (hk2 : k ≠ 370 + b) : zb_outS S b i k = S k := by
  unfold zb_outS
  rw [if_neg (by omega), if_neg (by omega), if_neg (by omega)]
theorem zb_outS_370 {S : Nat → Nat} {b i : Nat} (hb : b < 3) (hl : S (331 + 13 * b) ≤ 12) : zb_outS S b i (370 + b) = if i = 0 then S 330 else S (370 + b) := by
  unfold zb_outS
  rw [if_neg (by omega), if_neg (by omega)]
  by_cases e : i = 0
  · rw [if_pos ⟨rfl, e⟩, if_pos e]
  · rw [if_neg (fun z => e z.2), if_neg e]
theorem zb_outS_len {S : Nat → Nat} {b i b' : Nat} (hb : b < 3) (hb' : b' < 3) (hl : S (331 + 13 * b) ≤ 12) : zb_outS S b i (331 + 13 * b') = if b' = b then S (331 + 13 * b') - 1 else S (331 + 13 * b') := by
  unfold zb_outS
  by_cases e : b' = b
  · rw [if_pos (by omega), if_pos e]
  · rw [if_neg (by omega), if_neg (by omega), if_neg (by omega), if_neg e]
theorem zb_outS_ok {S : Nat → Nat} {b i n : Nat} (hb : b < 3) (hl : S (331 + 13 * b) ≤ 12) (ok : zo_bars S n) : zo_bars (zb_outS S b i) (n + 1) := by
  obtain ⟨p1, p2, p3, p4, p5, p6⟩ := zv_bars ok (S' := S) (fun _ _ _ => rfl)
  refine ⟨?_, ?_, fun k hk => ?_, ?_, ?_, fun b' hb' hpos => ?_⟩
  · rw [zb_outS_id hb hl (by omega) (by omega)]
    exact p1
  · rw [zb_outS_id hb hl (by omega) (by omega)]
    exact p2
  · have := p3 k hk
    by_cases e : k = b
    · subst e
      rw [zb_outS_370 hb hl]
      split <;> omega
    · rw [zb_outS_id hb hl (by omega) (by omega)]
      exact this
  · rw [zb_outS_id hb hl (by omega) (by omega)]
    exact p4
  · rw [zb_outS_id hb hl (by omega) (by omega)]
    exact p5
  · have h6 := p6 b' hb'
    rw [zb_outS_len hb hb' hl] at hpos
    by_cases e : b' = b
    · subst e
      rw [if_pos rfl] at hpos
      rw [zb_outS_370 hb hl]
      split
      · omega
      · exact h6 (by omega)
    · rw [if_neg e] at hpos
      rw [zb_outS_id hb hl (by omega) (by omega)]
      exact h6 hpos
section zs12
variable {c r : rj_M} {a0 a1 a2 a3 : Int32} {n : Nat}
theorem zo_leave (h : zi_I n c r) : zo_out ["java/lang/IndexOutOfBoundsException", "java/lang/IllegalStateException"] (fX11_leave c a0) ((mX12_leave r a0).1 395 0) (fX12_leave r a0) ∧ zi_op n c (mX11_leave c a0) r (mX12_leave r a0) ∧ qX11_leave c a0 ∧ qX12_leave r a0 := by
  have h0 := h
  obtain ⟨s, L, G, h1, h2, ok⟩ := h0
  have hV : fX12_isVisitor r a0 = fX12_in r a0 0 11 := rfl
  unfold fX11_leave mX12_leave fX12_leave mX11_leave qX11_leave qX12_leave
  rw [hV]
  rcases zn_p2 (μ := c) (ν := r) (a := a0) (c := 12) (d := 11) (n := 11) rfl rfl (by decide) with ⟨e1, e2, v, hv, rfl⟩ | ⟨e1, e2⟩
  · rw [e1, e2, zm_lacks1.1, zm_lacks1.2, if_pos rfl, if_pos rfl, zm_bmn]
    obtain ⟨q, w, hq, hc⟩ := h1.1.2.2.2.2.1
    have hc : zb_c c s.1 q w := hc
    have hT := zi_r_rst h2 (zo_rst_of (zo_stillT (r := r)))
    obtain ⟨t1, t2⟩ := zq_barOf hT.1 hq hv
    have hw3 := hq.2.2.2.1 v hv
    have hbc := zc_barOf hc hv
    have hm := (zn_m1 (s := w v) (by omega)).1
    rw [hbc, t1]
    by_cases cw : w v = 0
    · rw [if_pos (hm.mpr cw), if_pos (hm.mpr cw), if_pos (hm.mpr cw), if_pos (hm.mpr cw), if_pos (hm.mpr cw), zm_F2]
      exact ⟨zh_2 (by decide), zi_query h zo_cst_rfl (zo_rst_of zo_stillF2), trivial, fun _ => ⟨t2, fun _ => trivial, fun z => absurd (hm.mpr cw) z⟩, fun _ => trivial⟩
    · have hne : ¬ nI (w v) - 1 = -1 := fun z => cw (hm.mp z)
      have hw : nI (w v) - 1 = nI (w v - 1) := pk_sub (b := 1) (by omega)
      have hk := zi_keeps hT
      have hb := zi_begin h1 ok.1.2.1
      obtain ⟨k1, k2⟩ := zq_barOf hk.2.1.1 hq hv
      have hb3 : w v - 1 < 3 := by omega
      obtain ⟨i, hi⟩ : ∃ i, (zb_L q w (w v - 1))[i]? = some v := List.mem_iff_getElem?.mp (zb_L_mem.mpr ⟨(hq.2.2.1 v hv).mpr cw, by omega⟩)
      have hil := (List.getElem?_eq_some_iff.mp hi).1
      have hlb : (zb_L q w (w v - 1)).length ≤ 12 := Nat.le_trans zb_L_len (zb_ln12 hq)
      have hV' : fX12_isVisitor r (nI v) = 1 := e2
      obtain ⟨s1, s2⟩ := zw_first (f := bX12_leave_47 r (nI v)) (q := qX12_leave_47 r (nI v)) (p := fun k => (zb_L q w (w v - 1))[k]? = some v) (k := i) hi (fun j hj hc => by
        have := (List.getElem?_inj hil (zb_L_nodup hq.1)).mp (hi.trans hc.symm)
        omega) (fun j hj => by
        have hjl : j < (zb_L q w (w v - 1)).length := by omega
        have hg := List.getElem?_eq_getElem hjl
        have hp := zb_pos hq hg
        unfold bX12_leave_47
        rw [hV', zm_lacks1.2, k1, hw, zq_inLine hk.2.1.1 hq hb3 hg, hg]
        by_cases c : (zb_L q w (w v - 1))[j] = v
        · rw [if_pos (by rw [c])]
          exact .inl ⟨by rw [c], rfl⟩
        · rw [if_neg (fun z => c ((nI_eq (by omega) (by omega)).mp z))]
          exact .inr ⟨fun z => c (Option.some.inj z), rfl⟩) (fun j hj => by
        unfold qX12_leave_47
        rw [hV', zm_lacks1.2, k1, hw]
        exact ⟨vp_in_nI hb3 (by decide), vp_in_nI (by omega) (by decide), trivial⟩) 14 0 (Nat.zero_le _) (by omega)
      rw [show nI 0 = (0 : Int32) from rfl] at s1 s2
      rw [if_neg hne, if_neg hne, if_neg hne, if_neg hne, if_neg hne, k1, hw, s1]
      have hlen : s.1 (331 + 13 * (w v - 1)) = (zb_L q w (w v - 1)).length := (hq.2.2.2.2.1 (w v - 1) hb3).1
      have hline := zb_out_line hq hb3 hi
      obtain ⟨c1, c2, c3, c4⟩ := zi_gen (S' := zb_outS s.1 (w v - 1) i) (B' := s.2) (t := mX0_takeOut (mX11_beginChange c) (nI v)) (u := mX12_takesOut (mX12_keeps (mX12_lacksT r)) (nI (w v - 1)) (nI i)) h1 h2 ok (fun x hx hm' => by
        subst hx
        have hc1 : zb_c (mX11_beginChange c) s.1 q w := zb_c_of hc (hb.2.2.2.1 21 (by decide) (by decide) (by decide)) (hb.2.2.2.1 22 (by decide) (by decide) (by decide)) (hb.2.2.2.1 23 (by decide) (by decide) (by decide)) (hb.2.2.2.1 24 (by decide) (by decide) (by decide))
        obtain ⟨m1, m2, m3⟩ := zc_takeOut hc1 hq hv cw hi
        exact ⟨zr_momB hm' (fun k hk => m2 k (by omega) (by omega) (by omega) (by omega)) m3 (fun x hx => by
          unfold zb_outS
          rw [if_neg (by omega), if_neg (by omega), if_neg (by omega)]) ⟨_, _, hline, m1⟩, fun k hk => ⟨m2 k (by omega) (by omega) (by omega) (by omega), by rw [m3]⟩, by rw [m3]⟩) (fun x hx hm' => by
        subst hx
        obtain ⟨m1, m2, m3, m4⟩ := zq_takesOut hm' hq hb3 hil
        exact ⟨m1, fun k e1 e2 => m2 k e2, fun j _ => congrFun (m2 395 (by decide)) j, m3⟩) (zo_okB ok.1 (fun x hx => zb_outS_id hb3 (by omega) (by omega) (by omega)) (zb_outS_ok hb3 (by omega) ok.1.2.2.2.2.1))
      obtain ⟨-, -, -, m4⟩ := zq_takesOut hk.2.1.1 hq hb3 hil
      rw [c3]
      exact ⟨⟨rfl, rfl⟩, c4, ⟨c1, trivial⟩, fun _ => ⟨t2, fun z => absurd (hw.trans z) hne, fun _ => ⟨c2, k2, fun _ => ra_we_i s2, vp_in_nI hb3 (by decide), m4, trivial⟩⟩, fun _ => trivial⟩
  · rw [e1, e2, zm_lacks0.1, zm_lacks0.2, if_neg (show ¬ (1 : Int32) = 0 by decide), if_neg (show ¬ (1 : Int32) = 0 by decide), zm_bms, zm_F]
    exact ⟨zh_1, zi_query h zo_cst_rfl (zo_rst_of zo_stillF), trivial, fun z => absurd z (by decide), fun _ => trivial⟩
end zs12
