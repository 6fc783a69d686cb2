section zsn
variable {c r : rj_M} {S : Nat → Nat} {B : Nat → Int} {n kN : Nat}
/-- waits of both kinds, both sides -/
theorem zo_waits2 {d s : rj_M} (hb : zr_bars c 1 S) (hr : zr_row (r.1 396) S B) (ob : zo_bars S n) (hn : n ≤ 1000) (hk : 440 ≤ kN) : zo_cst c (mX0_sumInOneLine c) ∧ zo_rst r (mX12_waitsInOne r kN) ∧ (mX12_waitsInOne r kN).1 395 0 = r.1 395 0 ∧ qX12_waitsInOne r kN ∧ fX0_sumInOneLine c = fX12_waitsInOne r kN ∧ fX0_sumInLines (mX0_sumInOneLine c) = fX12_waitsInLines (mX12_waitsInOne r kN) := by
  obtain ⟨q, w, hq, hb⟩ := hb
  have hb : zb_c c S q w := hb
  obtain ⟨p1, p2, p3⟩ := zc_sumOne hb hq ob
  obtain ⟨q1, q2, q3, q4⟩ := zq_sumOne hr hq ob hn hk
  have rst : zo_rst r (mX12_waitsInOne r kN) := zo_rst_i (fun k e1 e2 => q2 k (by omega)) (congrFun (q2 395 (by omega)) 3) (congrFun (q2 395 (by omega)) 11) q3
  refine ⟨⟨fun k hk => p2 k (fun z => by subst z; cases hk), p3⟩, rst, congrFun (q2 395 (by omega)) 0, q4, p1.trans q1.symm, ?_⟩
  rw [zc_sumLines (zb_c_of hb (p2 21 (by decide)) (p2 22 (by decide)) (p2 23 (by decide)) (p2 24 (by decide))) hq, zq_sumLines (zo_rst_row rst hr) hq ob]
theorem zo_rz {m : rj_M} (hk : 440 ≤ kN) : zo_rst m (rj_z m kN) ∧ (rj_z m kN).1 395 0 = m.1 395 0 := by
  have z1 : ∀ k, k ≠ kN → (rj_z m kN).1 k = m.1 k := fun k hk => va_up_ne _ _ hk
  refine ⟨⟨fun k e1 e2 => z1 k (by omega), congrFun (z1 395 (by omega)) 3, congrFun (z1 395 (by omega)) 11, fun k hk => ⟨va_up_ne _ _ (by omega), va_up_ne _ _ (by omega), va_up_ne _ _ (by omega)⟩, fun h k i => ?_⟩, congrFun (z1 395 (by omega)) 0⟩
  show va_up m.2.2.2 kN (fun _ => 0) k i ≤ 440
  by_cases e : k = kN
  · rw [e, va_up_self]
    exact Nat.zero_le _
  · rw [va_up_ne _ _ e]
    exact h k i
theorem zo_isProved0 (ok : zo_shft S) (hr : zr_row (r.1 396) S B) : (mX12_isProved r).1 395 0 = r.1 395 0 := by
  obtain ⟨q1, q2, q3, q4, q5⟩ := zq_proof hr ok
  have hr1 : zr_row ((mX12_proofNow r).1 396) S B := by rw [q2 396 (by decide)]; exact hr
  obtain ⟨f1, f2, f3, f4⟩ := zq_shifts hr1 ok
  unfold mX12_isProved mX12_helpersNow
  rw [ite_self]
  exact (congrFun (f1 395 (by decide)) 0).trans (q3 0 (by decide) (by decide))
theorem zo_errors (hn : n ≤ 1000) (hk : 440 ≤ kN) (h : zr_mom c 1 S B) (hr : zr_row (r.1 396) S B) (ok : zo_ok S B n) (hcr : rj_cr r) : fX11_errors c = fX12_errors r kN ∧ (mX12_errors r kN).1 395 0 = 0 ∧ zo_rst r (mX12_errors r kN) ∧ zo_cst c (mX11_errors c) ∧ qX11_errors c ∧ qX12_errors r kN := by
  obtain ⟨hcal, hgrnd, hprog, hexit, hbars, hshft, hpowr, hpurs⟩ := h
  obtain ⟨ocal, ogrnd, oprog, oexit, obars, oshft, opowr, opurs⟩ := ok
  have hr0 : zr_row ((rj_pi r 395 0 0).1 396) S B := by rw [zm_pi_ne (by decide)]; exact hr
  have h00 : (rj_pi r 395 0 0).1 395 0 = 0 := zm_pi_eq
  have hst0 : zo_rst r (rj_pi r 395 0 0) := zo_rst_of zo_still_t
  have hcr0 : rj_cr (rj_pi r 395 0 0) := hcr
  obtain ⟨set, s1, s2, s3, cs1, rs1, t1, ql1, ql2, hpl⟩ := zo_lineup hprog hr0 oprog
  have hr1 := zo_rst_row rs1 hr0
  have hs : rj_fo (bX12_errors_42b r kN) 25 0 0 = 0 := zq_sumOfAll hr1 opurs.2.2.2.2 (fun _ _ => rfl)
  have hneg : ¬ nI set < 0 := nI_pos (by omega)
  unfold fX11_errors mX11_errors qX11_errors fX12_errors mX12_errors qX12_errors
  rw [s2, s3, hpl, if_neg hneg, if_neg hneg, hs, ite_self]
  have hcr1 : rj_cr (mX12_lineup (rj_pi r 395 0 0)) := rs1.2.2.2.2 hcr0
  have t1' := t1.trans h00
  have rs1' := zo_rst_trans hst0 rs1
  generalize mX12_lineup (rj_pi r 395 0 0) = m1 at hr1 hcr1 t1' rs1' ⊢
  generalize rj_pi r 395 0 0 = m0 at ql2 ⊢
  generalize mX7_lineup c = c1 at cs1 ⊢
  obtain ⟨bc1, bc2⟩ := zc_bound (zo_cst_prog cs1 hprog) oprog
  obtain ⟨br1, br2⟩ := zq_bound hr1 oprog
  obtain ⟨k1, k2, -⟩ := zc_look (zo_cst_prog cs1 hprog) oprog
  have cs2' : zo_cst c1 (mX7_lookAtAll c1) := ⟨fun k hk => k1 k (fun z => by subst z; cases hk) (fun z => by subst z; cases hk), k2⟩
  have cs2 : zo_cst c (mX7_bound c1) := zo_cst_trans cs1 cs2'
  generalize mX7_bound c1 = c2 at cs2 ⊢
  obtain ⟨ev1, ev2⟩ := zo_eveningsC (zo_cst_grnd cs2 hgrnd) (zo_cst_prog cs2 hprog) oprog ogrnd
  have cs3 := zo_cst_trans cs2 ev2
  obtain ⟨er1, er2, er3, er4⟩ := zo_eveningsR hgrnd hprog hr1 oprog ogrnd
  have hr2 := zo_rst_row er2 hr1
  have hcr2 := er2.2.2.2.2 hcr1
  rw [ev1, er1, bc1, br1, zm_holds, zm_holds1]
  generalize mX11_areEveningsRight c2 = c3 at cs3 ⊢
  obtain ⟨o, e0, e1, e2, e3, e4⟩ := zx_out (zo_cst_exit cs3 hexit) hr1 oexit
  have hT := fun m hm => zc_T (m := m) (zo_cst_exit cs3 hexit) oexit hm
  have hTq := fun m hm => zq_tooMany (m := m) hr2 oexit hm
  rw [e2]
  generalize mX12_areEvenings m1 = m2 at er2 er3 hr2 hcr2 hTq ⊢
  obtain ⟨z1, z2⟩ := zo_rz (m := m2) hk
  have hr3 := zo_rst_row z1 hr2
  generalize rj_z m2 kN = mz at z1 z2 hr3 ⊢
  obtain ⟨w1, w2, w3, w4, w5, w6⟩ := zo_waits2 (d := c) (s := r) (zo_cst_bars cs3 hbars) hr3 obars hn hk
  have cs4 := zo_cst_trans cs3 w1
  have hr4 := zo_rst_row w2 hr3
  rw [w5, w6, zm_holds]
  generalize mX0_sumInOneLine c3 = c4 at cs4 ⊢
  generalize mX12_waitsInOne mz kN = m3 at w2 w3 hr4 ⊢
  obtain ⟨p1, p2, p3, p4, p5, p6⟩ := zo_isProved (zo_cst_shft cs4 hshft) hr4 oshft
  have p7 := zo_isProved0 oshft hr4
  have cs5 := zo_cst_trans cs4 p4
  have hsa := zc_sumOfAll (zo_cst_purs cs5 hpurs) opurs.2.2.2.2
  rw [hsa, p1]
  generalize mX11_isProofRight c4 = c5 at cs5 ⊢
  generalize mX12_isProved m3 = m4 at p3 p7 ⊢
  have hcmp : (if lg_cmp 0 0 = 0 then (1 : Int32) else 0) = 1 := rfl
  rw [hcmp, zm_holds1]
  have hlast : (if (0 : Int32) = 0 then (0 : Int32) else 1) = 0 := rfl
  have h10 : (if (1 : Int32) = 0 then (1 : Int32) else 0) = 0 := rfl
  rw [hlast, h10]
  have hE : fX11_holds c5 (fX12_isProved m3) = if fX12_isProved m3 = 0 then 1 else 0 := rfl
  rw [hE, Int32.zero_add]
  refine ⟨?_, p7.trans (w3.trans (z2.trans (er3.trans t1'))), zo_rst_trans rs1' (zo_rst_trans er2 (zo_rst_trans z1 (zo_rst_trans w2 p3))), cs5, ⟨ql1, bc2, ⟨e3, trivial⟩, p5, trivial⟩, ql2, fun z => absurd z hneg, fun _ => ⟨br2, e4, er4, fun _ => ⟨hcr2, w4, p6, trivial⟩, fun _ => ⟨hcr2, w4, p6, trivial⟩⟩⟩
  unfold fX11_isOutInTime
  rw [e1]
  rcases e0 with rfl | ⟨m, hm, rfl⟩
  · rw [if_pos rfl, if_pos rfl, zm_holds1]
  · have hm1 : ¬ nI m = -1 := fun z => zo_not (k := m) (by omega) z
    rw [if_neg hm1, if_neg hm1, hT m (by omega), hTq m (by omega)]
    have e : fX11_holds c3 (if nI (zx_T S m) = 0 then 1 else 0) = if nI (zx_T S m) = 0 then 0 else 1 := by
      by_cases h : nI (zx_T S m) = 0
      · rw [if_pos h, if_pos h]
        rfl
      · rw [if_neg h, if_neg h]
        rfl
    rw [e]
end zsn
/-! THE REST OF THE QUERIES from the invariant -/
section zso
variable {c r : rj_M} {a0 a1 a2 : Int32} {n : Nat}
theorem zu_evening (h : zi_I n c r) : zo_out ["java/lang/IndexOutOfBoundsException"] (fX11_evening c a0 a1) ((mX12_evening r a0 a1).1 395 0) (fX12_evening r a0 a1) ∧ zi_op n c (mX11_evening c a0 a1) r (mX12_evening r a0 a1) ∧ qX12_evening r a0 a1 := by
  have h0 := h
  obtain ⟨s, L, G, h1, h2, ok⟩ := h0
  obtain ⟨a, b, d, e⟩ := zo_evening (a0 := a0) (a1 := a1) h1.1.2.1 h1.1.2.2.1 h2.1 ok.1.2.2.1 ok.1.2.1
  exact ⟨a, zi_query h d b, e⟩
theorem zu_eveningAct (h : zi_I n c r) : zo_out ["java/lang/IndexOutOfBoundsException", "java/util/NoSuchElementException"] (fX11_eveningAct c a0 a1 a2) ((mX12_eveningAct r a0 a1 a2).1 395 0) (fX12_eveningAct r a0 a1 a2) ∧ zi_op n c (mX11_eveningAct c a0 a1 a2) r (mX12_eveningAct r a0 a1 a2) ∧ qX12_eveningAct r a0 a1 a2 := by
  have h0 := h
  obtain ⟨s, L, G, h1, h2, ok⟩ := h0
  obtain ⟨a, b, d, e⟩ := zo_eveningAct (a0 := a0) (a1 := a1) (a2 := a2) h1.1.2.1 h1.1.2.2.1 h2.1 ok.1.2.2.1 ok.1.2.1
  exact ⟨a, zi_query h d b, e⟩
theorem zu_price (h : zi_I n c r) : zo_out ["java/lang/IndexOutOfBoundsException"] (fX11_price c a0 a1) ((mX12_price r a0 a1).1 395 0) (fX12_price r a0 a1) ∧ zi_op n c (mX11_price c a0 a1) r (mX12_price r a0 a1) ∧ qX12_price r a0 a1 := by
  have h0 := h
  obtain ⟨s, L, G, h1, h2, ok⟩ := h0
  obtain ⟨a, b, d, e⟩ := zo_price (a0 := a0) (a1 := a1) h1.1.2.1 h1.1.2.2.1 h2.1 ok.1.2.2.1 ok.1.2.1
  exact ⟨a, zi_query h d b, e⟩
theorem zu_listeners (h : zi_I n c r) : zo_out ["java/lang/IndexOutOfBoundsException", "java/lang/IllegalArgumentException"] (fX11_listeners c a0 a1) ((mX12_listeners r a0 a1).1 395 0) (fX12_listeners r a0 a1) ∧ zi_op n c (mX11_listeners c a0 a1) r (mX12_listeners r a0 a1) ∧ qX12_listeners r a0 a1 := by
  have h0 := h
  obtain ⟨s, L, G, h1, h2, ok⟩ := h0
  obtain ⟨a, b, d, e⟩ := zo_listeners (a0 := a0) (a1 := a1) h1.1.2.1 h1.1.2.2.1 h2.1 ok.1.2.2.1 ok.1.2.1
  exact ⟨a, zi_query h d b, e⟩
theorem zu_meanEvening (h : zi_I n c r) : zo_out ["java/lang/IndexOutOfBoundsException"] (fX11_meanEvening c a0) ((mX12_meanEvening r a0).1 395 0) (fX12_meanEvening r a0) ∧ zi_op n c (mX11_meanEvening c a0) r (mX12_meanEvening r a0) ∧ qX11_meanEvening c a0 ∧ qX12_meanEvening r a0 := by
  have h0 := h
  obtain ⟨s, L, G, h1, h2, ok⟩ := h0
  obtain ⟨a, b, d, e⟩ := zo_meanEvening (a0 := a0) h1.1.2.1 h1.1.2.2.1 h2.1 ok.1.2.2.1 ok.1.2.1
  exact ⟨a, zi_query h d b, e⟩
theorem zu_lineupShare (h : zi_I n c r) : fX11_lineupShare c = fX12_lineupShare r ∧ (mX12_lineupShare r).1 395 0 = 0 ∧ zi_op n c (mX11_lineupShare c) r (mX12_lineupShare r) ∧ qX11_lineupShare c ∧ qX12_lineupShare r := by
  have h0 := h
  obtain ⟨s, L, G, h1, h2, ok⟩ := h0
  obtain ⟨a, a', b, d, e⟩ := zo_lineupShare h1.1.2.2.1 h2.1 ok.1.2.2.1
  exact ⟨a, a', zi_query h d b, e⟩
theorem zu_errors {kN : Nat} (hn : n ≤ 1000) (hk : 440 ≤ kN) (h : zi_I n c r) : fX11_errors c = fX12_errors r kN ∧ (mX12_errors r kN).1 395 0 = 0 ∧ zi_op n c (mX11_errors c) r (mX12_errors r kN) ∧ qX11_errors c ∧ qX12_errors r kN := by
  have h0 := h
  obtain ⟨s, L, G, h1, h2, ok⟩ := h0
  obtain ⟨a, a', b, d, e⟩ := zo_errors hn hk h1.1 h2.1 ok.1 h2.2.2.2.2
  exact ⟨a, a', zi_query h d b, e⟩
end zso
