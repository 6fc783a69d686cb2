/-! QUERIES, both sides: the lineup's worth, the exits, the helpers, the power -/
theorem zs_front {f : Nat → Nat} : ∀ n, zs f (n + 1) = f 0 + zs (fun k => f (k + 1)) n
  | 0 => by
    show 0 + f 0 = f 0 + 0
    omega
  | n + 1 => by
    show zs f (n + 1) + f (n + 1) = f 0 + (zs (fun k => f (k + 1)) n + f (n + 1))
    rw [zs_front n]
    omega
theorem zl_val {el : Nat → Bool} {cl : Nat → Nat → Bool} {p : Nat → Nat} : ∀ (r k set : Nat), ∃ M, (zl_best el cl p r k set).2 = 2 ^ k * M ∧ M < 2 ^ r ∧ (zl_best el cl p r k set).1 = zs (fun j => if M.testBit j = true then p (k + j) else 0) r
  | 0, k, set => ⟨0, (by rw [Nat.mul_zero]; rfl), (by decide), rfl⟩
  | r + 1, k, set => by
    have hdn : ∀ s, ∃ M, (zl_best el cl p r (k + 1) s).2 = 2 ^ k * M ∧ M < 2 ^ (r + 1) ∧ (zl_best el cl p r (k + 1) s).1 = zs (fun j => if M.testBit j = true then p (k + j) else 0) (r + 1) := fun s => by
      obtain ⟨M, h1, h2, h3⟩ := zl_val (el := el) (cl := cl) (p := p) r (k + 1) s
      refine ⟨2 * M, ?_, ?_, ?_⟩
      · rw [h1, Nat.pow_succ, Nat.mul_assoc]
      · rw [Nat.pow_succ]
        omega
      · rw [h3, zs_front, if_neg (by rw [Nat.testBit_zero]; simp), Nat.zero_add]
        refine zs_congr r (fun j _ => ?_)
        rw [Nat.testBit_succ, Nat.mul_div_cancel_left _ (by decide), show k + 1 + j = k + (j + 1) by omega]
    rw [zl_best_s]
    split
    · split
      · obtain ⟨M, h1, h2, h3⟩ := zl_val (el := el) (cl := cl) (p := p) r (k + 1) (set + 2 ^ k)
        refine ⟨2 * M + 1, ?_, ?_, ?_⟩
        · show 2 ^ k + (zl_best el cl p r (k + 1) (set + 2 ^ k)).2 = _
          rw [h1, Nat.pow_succ, Nat.mul_assoc, Nat.mul_add, Nat.mul_one, Nat.add_comm]
        · rw [Nat.pow_succ]
          omega
        · show p k + (zl_best el cl p r (k + 1) (set + 2 ^ k)).1 = _
          rw [h3, zs_front, if_pos (by rw [Nat.testBit_zero]; simp), Nat.add_zero]
          congr 1
          refine zs_congr r (fun j _ => ?_)
          rw [Nat.testBit_succ, show (2 * M + 1) / 2 = M by omega, show k + 1 + j = k + (j + 1) by omega]
      · exact hdn set
    · exact hdn set
theorem zm_bmn {k z : rj_M} : rj_bm none k z = k := rfl
theorem zm_bms {k z : rj_M} {E : String} : rj_bm (some E) k z = z := rfl
section zqQuery4
variable {r c : rj_M} {S : Nat → Nat} {B : Nat → Int} {a0 a1 a2 : Int32}
theorem zc_pleasingOfAll (hc : zr_prog c 1 S) (ok : zo_prog S) {set : Nat} (hs : set < 65536) : fX7_pleasingOfAll c (nI set) = nI (zs (fun j => if set.testBit j = true then zp_p S j else 0) 16) := by
  unfold fX7_pleasingOfAll
  have := zf_zs (f := bX7_pleasingOfAll_4 c (nI set)) (g := fun j => if set.testBit j = true then zp_p S j else 0) (x := 0) 16 (fun j y hj => by
    unfold bX7_pleasingOfAll_4
    by_cases cb : set.testBit j = true
    · rw [if_pos cb, if_neg (fun z => by rw [(zn_bit0 (by omega) (by omega)).mp z] at cb; cases cb), zc_pl hc ok hj, nI_add]
      unfold zp_p
      rw [if_pos hj]
    · have cb' : set.testBit j = false := by simpa using cb
      rw [if_neg cb, if_pos ((zn_bit0 (by omega) (by omega)).mpr cb'), Nat.add_zero])
  rw [Nat.zero_add] at this
  exact this
theorem zo_pleased (hc : zr_prog c 1 S) (hr : zr_row (r.1 396) S B) (ok : zo_prog S) : fX11_pleased c a0 = fX12_pleased r a0 ∧ (mX12_pleased r a0).1 395 0 = 0 ∧ zo_rst r (mX12_pleased r a0) ∧ zo_cst c (mX11_pleased c a0) ∧ qX11_pleased c a0 ∧ qX12_pleased r a0 := by
  obtain ⟨k1, k2, k3⟩ := zc_look hc ok
  have hst : zo_cst c (mX7_lookAtAll c) := ⟨fun k hk => k1 k (fun z => by subst z; cases hk) (fun z => by subst z; cases hk), k2⟩
  have hr' : zr_row ((rj_pi r 395 0 0).1 396) S B := by rw [zm_pi_ne (by decide)]; exact hr
  have hrst : zo_rst r (rj_pi r 395 0 0) := zo_rst_of zo_still_t
  have h0 : (rj_pi r 395 0 0).1 395 0 = 0 := zm_pi_eq
  unfold fX11_pleased fX12_pleased mX12_pleased mX11_pleased qX11_pleased qX12_pleased
  generalize rj_pi r 395 0 0 = m at hr' hrst h0
  by_cases c0 : a0 = 0
  · rw [if_pos c0, if_pos c0, if_pos c0, if_pos c0, if_pos c0]
    obtain ⟨l1, l2⟩ := zc_lineup hc ok
    obtain ⟨q1, q2, q3⟩ := zq_lineup hr' ok
    obtain ⟨M, b1, b2, b3⟩ := zl_val (el := zp_el S) (cl := zp_cl S) (p := zp_p S) 16 0 0
    have hle := zl_best_le (el := zp_el S) (cl := zp_cl S) (zp_p_le ok) 16 0 0
    rw [Nat.pow_zero, Nat.one_mul] at b1
    rw [l1, q2, q1, ite_self, if_neg (nI_pos (by rw [b1]; omega))]
    have hp1 : zr_prog (mX7_lookAtAll c) 1 S := zr_prog_of hc (fun k e1 e2 => k1 k (by omega) (by omega))
    have hp : zr_prog (mX7_lineup c) 1 S := hp1
    rw [b1, zc_pleasingOfAll hp ok b2]
    refine ⟨?_, ?_, zo_rst_trans hrst (zo_rst_i (fun k hk _ => (zm_pi_ne hk).trans ((zm_pi_ne hk).trans (zm_pi_ne hk))) ((zm_pi_ne2 (by decide)).trans ((zm_pi_ne2 (by decide)).trans (zm_pi_ne2 (by decide)))) ((zm_pi_ne2 (by decide)).trans ((zm_pi_ne2 (by decide)).trans (zm_pi_ne2 (by decide)))) rfl), hst, ⟨l2, trivial⟩, fun _ => ⟨q3, trivial⟩, fun z => absurd c0 z⟩
    · rw [zm_pi_ne2 (by decide), zm_pi_eq, b3]
      congr 1
    · exact ((zm_pi_ne2 (by decide)).trans ((zm_pi_ne2 (by decide)).trans (zm_pi_ne2 (by decide)))).trans h0
  · rw [if_neg c0, if_neg c0, if_neg c0, if_neg c0, if_neg c0, (zc_bound hc ok).1, (zq_bound hr' ok).1]
    exact ⟨rfl, h0, hrst, hst, ⟨(zc_bound hc ok).2, trivial⟩, fun z => absurd z c0, fun _ => ⟨(zq_bound hr' ok).2, trivial⟩⟩
theorem zo_outBy (hc : zr_exit c 1 S) (hr : zr_row (r.1 396) S B) (ok : zo_exit S) : fX11_outBy c = fX12_outBy r ∧ (mX12_outBy r).1 395 0 = 0 ∧ zo_still r (mX12_outBy r) ∧ qX11_outBy c ∧ qX12_outBy r := by
  have hr' : zr_row ((rj_pi r 395 0 0).1 396) S B := by rw [zm_pi_ne (by decide)]; exact hr
  obtain ⟨o, -, e1, e2, e3, e4⟩ := zx_out hc hr' ok
  exact ⟨e1.trans e2.symm, zm_pi_eq, zo_still_t, ⟨e3, trivial⟩, e4, trivial⟩
theorem zo_cut (hc : zr_exit c 1 S) (hr : zr_row (r.1 396) S B) (ok : zo_exit S) : fX11_cut c = fX12_cut r ∧ (mX12_cut r).1 395 0 = 0 ∧ zo_still r (mX12_cut r) ∧ qX11_cut c ∧ qX12_cut r := by
  have hr' : zr_row ((rj_pi r 395 0 0).1 396) S B := by rw [zm_pi_ne (by decide)]; exact hr
  have h0 : (rj_pi r 395 0 0).1 395 0 = 0 := zm_pi_eq
  have hst : zo_still r (rj_pi r 395 0 0) := zo_still_t
  unfold fX11_cut fX12_cut mX12_cut qX11_cut qX12_cut
  generalize rj_pi r 395 0 0 = m at hr' h0 hst
  obtain ⟨o, e0, e1, e2, e3, e4⟩ := zx_out hc hr' ok
  rw [e1, e2, ite_self]
  refine ⟨?_, h0, hst, ⟨e3, trivial⟩, e4, trivial⟩
  rcases e0 with rfl | ⟨k, hk, rfl⟩
  · rw [if_neg (by decide), if_pos (by decide)]
  · by_cases c0 : k = 0
    · subst c0
      rw [if_neg (by decide), if_pos (by decide)]
    · rw [if_pos (show (0 : Int32) < nI k from nI_lt (a := 0) (by omega) (by omega)), if_neg (nI_nle (by omega) (by omega)), show (1 : Int32) = nI 1 from rfl, pk_sub (by omega), zc_T hc ok (by omega), zq_tooMany hr' ok (by omega)]
theorem zo_proof (hc : zr_shft c 1 S) (hr : zr_row (r.1 396) S B) (ok : zo_shft S) : fX11_proof c = fX12_proof r ∧ (mX12_proof r).1 395 0 = 0 ∧ zo_rst r (mX12_proof r) ∧ zo_cst c (mX11_proof c) ∧ qX12_proof r := by
  have hr' : zr_row ((rj_pi r 395 0 0).1 396) S B := by rw [zm_pi_ne (by decide)]; exact hr
  have h0 : (rj_pi r 395 0 0).1 395 0 = 0 := zm_pi_eq
  have hst : zo_rst r (rj_pi r 395 0 0) := zo_rst_of zo_still_t
  unfold fX11_proof fX12_proof mX12_proof mX11_proof qX12_proof
  generalize rj_pi r 395 0 0 = m at hr' h0 hst
  obtain ⟨p1, p2, p3⟩ := zc_proof hc ok
  obtain ⟨q1, q2, q3, q4, q5⟩ := zq_proof hr' ok
  exact ⟨p1.trans q1.symm, (q3 0 (by decide) (by decide)).trans h0, zo_rst_trans hst (zo_rst_i (fun k hk _ => q2 k hk) (q3 3 (by decide) (by decide)) (q3 11 (by decide) (by decide)) q4), ⟨fun k hk => p2 k (fun z => by subst z; cases hk), p3⟩, q5, trivial⟩
theorem zo_helpers (hc : zr_shft c 1 S) (hr : zr_row (r.1 396) S B) (ok : zo_shft S) : zo_out ["java/lang/IndexOutOfBoundsException"] (fX11_helpers c a0) ((mX12_helpers r a0).1 395 0) (fX12_helpers r a0) ∧ zo_rst r (mX12_helpers r a0) ∧ zo_cst c (mX11_helpers c a0) ∧ qX11_helpers c a0 ∧ qX12_helpers r a0 := by
  have hr' : zr_row ((mX12_lacksT r).1 396) S B := zr_T hr
  have h0 : (mX12_lacksT r).1 395 0 = 0 := zm_T
  have hst : zo_rst r (mX12_lacksT r) := zo_rst_of zo_stillT
  obtain ⟨s1, s2, s3, s4, s5⟩ := zc_starts hc ok
  have cst : zo_cst c (mX10_planStarts c) := ⟨fun k hk => s1 k (fun z => by subst z; cases hk), s2⟩
  unfold fX11_helpers fX12_helpers mX12_helpers mX11_helpers qX11_helpers qX12_helpers fX12_isHour mX12_helpersNow qX12_helpersNow
  have hF := @zm_F r
  have hFs := zo_rst_of (zo_stillF (r := r))
  generalize mX12_lacksT r = m at hr' h0 hst
  obtain ⟨q1, q2, q3, q4⟩ := zq_shifts hr' ok
  have hq : zo_rst r (mX12_findsShifts m) := zo_rst_trans hst (zo_rst_i (fun k hk e => q1 k (by omega)) (congrFun (q1 395 (by decide)) 3) (congrFun (q1 395 (by decide)) 11) q2)
  have hq0 : (mX12_findsShifts m).1 395 0 = 0 := (congrFun (q1 395 (by decide)) 0).trans h0
  by_cases c1 : a0 = -1
  · rw [if_pos c1, if_pos c1, if_pos c1, if_pos c1, if_pos c1, zc_sumStarts s3, zq_helpersNow hr' ok, hq0]
    exact ⟨⟨rfl, rfl⟩, hq, cst, ⟨s5, trivial⟩, fun _ => ⟨⟨q4, trivial⟩, trivial⟩, fun z => absurd c1 z⟩
  · rw [if_neg c1, if_neg c1, if_neg c1, if_neg c1, if_neg c1]
    rcases zn_p2 (μ := c) (ν := r) (a := a0) (c := 24) (d := 23) (n := 23) rfl rfl (by decide) with ⟨e1, e2, x, hx, rfl⟩ | ⟨e1, e2⟩
    · rw [e1, e2, if_neg (show ¬ (1 : Int32) = 0 by decide), if_neg (show ¬ (1 : Int32) = 0 by decide), hq0, nI_clamp (by omega), q3 x hx, zm_bmn]
      refine ⟨⟨rfl, ?_⟩, hq, cst, ⟨s5, trivial⟩, fun z => absurd z c1, fun _ => ⟨fun z => absurd z (by decide), fun _ => ⟨⟨q4, trivial⟩, trivial⟩⟩⟩
      exact (s3 x hx).symm
    · rw [e1, e2, if_pos rfl, if_pos rfl, hF]
      exact ⟨zh_1, hFs, ⟨fun _ _ => rfl, rfl⟩, trivial, fun z => absurd z c1, fun _ => ⟨fun _ => trivial, fun z => absurd rfl z⟩⟩
set_option maxRecDepth 100000 in
theorem zo_cost (hc : zr_powr c 1 S) (hr : zr_row (r.1 396) S B) (ok : zo_powr S) (hp : zq_ptr r) : fX11_cost c = fX12_cost r ∧ (mX12_cost r).1 395 0 = 0 ∧ zo_rst r (mX12_cost r) ∧ zo_cst c (mX11_cost c) ∧ qX12_cost r := by
  have hr' : zr_row ((rj_pi r 395 0 0).1 396) S B := by rw [zm_pi_ne (by decide)]; exact hr
  have h0 : (rj_pi r 395 0 0).1 395 0 = 0 := zm_pi_eq
  have hst : zo_rst r (rj_pi r 395 0 0) := zo_rst_of zo_still_t
  have hp' : zq_ptr (rj_pi r 395 0 0) := hp
  unfold fX11_cost fX12_cost mX12_cost mX11_cost qX12_cost
  generalize rj_pi r 395 0 0 = m at hr' h0 hst hp'
  obtain ⟨p1, p2, p3, p4⟩ := zc_costs hc ok
  obtain ⟨q1, q2, q3, q4, q5⟩ := zq_costNow hr' ok hp'
  refine ⟨?_, (congrFun (q4 395 (by decide)) 0).trans h0, zo_rst_trans hst (zo_rst_i (fun k hk e => q4 k (by omega)) (congrFun (q4 395 (by decide)) 3) (congrFun (q4 395 (by decide)) 11) q5), ⟨fun k hk => p3 k (fun z => by subst z; cases hk) (fun z => by subst z; cases hk) (fun z => by subst z; cases hk) (fun z => by subst z; cases hk), p4⟩, q1, trivial⟩
  rw [zc_leastCost ok p2, q2, zw_i]
end zqQuery4
