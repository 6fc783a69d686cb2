/-! WHAT THE REFERENCE'S QUERIES LEAN ON -/
section zsq
variable {c r : rj_M} {a0 a1 a2 : Int32} {n : Nat} {S : Nat → Nat} {B : Nat → Int}
theorem zqq_dateAt : qX12_dateAt r a0 a1 := by
  unfold qX12_dateAt
  refine ⟨fun _ => trivial, fun h => ⟨fun _ => trivial, fun _ => ⟨fun _ => ra_we_i ?_, trivial⟩⟩⟩
  rcases zn_of2 (m := r) (a := a0) (c := 5759) (n := 5759) rfl (by decide) with ⟨-, t, ht, rfl⟩ | e
  · have hday : nI t / 1440 = nI (t / 1440) := pk_div (d := 1440) (by omega) (by decide) (by decide)
    rw [hday]
    refine zw_q (q := qX12_dateAt_64 r (nI t) a1) (f := bX12_dateAt_64 r (nI t) a1) (fun s => ∃ k, k ≤ 4 ∧ s.2.2.2 = nI k) (fun s => s.2.2.2.toInt.toNat) 5 _ ⟨t / 1440, by omega, rfl⟩ (by
      show (nI (t / 1440)).toInt.toNat < 5
      rw [nI_toInt (by omega)]
      omega) (fun a ha => ⟨trivial, fun z hz => ?_⟩)
    obtain ⟨y, m, d, k'⟩ := a
    obtain ⟨k, hk, e⟩ := ha
    have e : k' = nI k := e
    subst e
    unfold bX12_dateAt_64 at hz
    simp only at hz
    by_cases c0 : k = 0
    · subst c0
      rw [if_pos (show nI 0 ≤ 0 from Int32.le_refl _)] at hz
      cases hz
    · rw [if_neg (nI_nle (by omega) (by omega))] at hz
      have ek : nI k + (-1) = nI (k - 1) := by
        rw [← Int32.sub_eq_add_neg]
        exact pk_sub (b := 1) (by omega)
      rw [ek] at hz
      have hz4 : z.2.2.2 = nI (k - 1) := by
        split at hz
        · split at hz
          · rw [← Sum.inl.inj hz]
          · rw [← Sum.inl.inj hz]
        · rw [← Sum.inl.inj hz]
      refine ⟨⟨k - 1, by omega, hz4⟩, ?_⟩
      show z.2.2.2.toInt.toNat < (nI k).toInt.toNat
      rw [hz4, nI_toInt (by omega), nI_toInt (by omega)]
      omega
  · exact absurd e h
theorem zqq_walk (hr : zr_row (r.1 396) S B) (ok : zo_grnd S) : qX12_walk r a0 a1 := by
  unfold qX12_walk
  refine ⟨fun _ => trivial, fun h0 => ⟨fun _ => trivial, fun h1 => ⟨?_, trivial⟩⟩⟩
  rcases zn_of2 (m := r) (a := a0) (c := 3) (n := 3) rfl (by decide) with ⟨-, x, hx, rfl⟩ | e
  · rcases zn_of2 (m := r) (a := a1) (c := 3) (n := 3) rfl (by decide) with ⟨-, y, hy, rfl⟩ | e
    · exact (zq_walkOf (zr_T hr) ok hx hy).2
    · exact absurd e h1
  · exact absurd e h0
theorem zn_lk {x : Int32} (h : fX12_lacks r x = 0) : ¬ x = 0 := fun z => by
  rw [z, zm_lacks0.1] at h
  exact absurd h (by decide)
theorem zqq_line : qX12_line r a0 := by
  unfold qX12_line
  refine ⟨fun h => ?_, fun _ => trivial⟩
  rcases zn_of2 (m := r) (a := a0) (c := 2) (n := 2) rfl (by decide) with ⟨-, x, hx, rfl⟩ | e
  · exact ⟨vp_in_nI hx (by decide), trivial⟩
  · exact absurd e (zn_lk h)
theorem zqq_front : qX12_front r a0 a1 := by
  unfold qX12_front
  refine ⟨fun h => ?_, fun _ => trivial⟩
  rcases zn_of2 (m := r) (a := a0) (c := 2) (n := 2) rfl (by decide) with ⟨-, x, hx, rfl⟩ | e
  · refine ⟨vp_in_nI hx (by decide), fun _ => trivial, fun _ => ⟨fun _ => ⟨vp_in_nI hx (by decide), trivial⟩, fun _ => ⟨?_, trivial⟩⟩⟩
    rw [show (370 : Int32) + nI x = nI (370 + x) by rw [show (370 : Int32) = nI 370 from rfl, nI_add]]
    exact vp_in_nI (by omega) (by decide)
  · exact absurd e (zn_lk h)
theorem zqq_waitOf (hc : zr_bars c 1 S) (hr : zr_row (r.1 396) S B) : qX12_waitOf r a0 := by
  obtain ⟨q, w, hq, -⟩ := hc
  unfold qX12_waitOf
  refine ⟨fun h => ⟨?_, trivial⟩, fun _ => trivial⟩
  have hV : fX12_isVisitor r a0 = fX12_in r a0 0 11 := rfl
  rw [hV] at h ⊢
  rcases zn_of2 (m := r) (a := a0) (c := 11) (n := 11) rfl (by decide) with ⟨e, x, hx, rfl⟩ | e
  · rw [e, zm_lacks1.2]
    by_cases hw : w x = 0
    · exact (zq_waitNow0 (zr_T hr) hq hx hw).2
    · obtain ⟨i, hi⟩ : ∃ i, (zb_L q w (w x - 1))[i]? = some x := List.mem_iff_getElem?.mp (zb_L_mem.mpr ⟨(hq.2.2.1 x hx).mpr hw, by omega⟩)
      exact (zq_waitNow (zr_T hr) hq hx hw hi).2
  · exact absurd e (zn_lk h)
theorem zqq_movedTo : qX12_movedTo r a0 := by
  unfold qX12_movedTo
  refine ⟨fun h => ⟨fun _ => trivial, fun _ => ?_⟩, fun _ => trivial⟩
  rcases zn_of2 (m := r) (a := a0) (c := 15) (n := 15) rfl (by decide) with ⟨-, x, hx, rfl⟩ | e
  · exact ⟨vp_in_nI hx (by decide), trivial⟩
  · refine absurd ?_ (zn_lk h)
    unfold fX12_isAct
    rw [e, if_pos rfl]
theorem zqq_balance : qX12_balance r a0 a1 := by
  have key : fX12_no (mX12_lacksT r) (fX12_in (mX12_lacksT r) a1 0 11) 2 = 0 → vp_in (500 + (1 + a1)) 625 ∧ vp_in (500 + (13 + a1)) 625 := fun h => by
    rcases zn_of2 (m := mX12_lacksT r) (a := a1) (c := 11) (n := 11) rfl (by decide) with ⟨-, x, hx, rfl⟩ | e
    · have e501 : (500 : Int32) + (1 + nI x) = nI (500 + (1 + x)) := by rw [show (1 : Int32) = nI 1 from rfl, show (500 : Int32) = nI 500 from rfl, nI_add, nI_add]
      have e513 : (500 : Int32) + (13 + nI x) = nI (500 + (13 + x)) := by rw [show (13 : Int32) = nI 13 from rfl, show (500 : Int32) = nI 500 from rfl, nI_add, nI_add]
      rw [e501, e513]
      exact ⟨vp_in_nI (by omega) (by decide), vp_in_nI (by omega) (by decide)⟩
    · rw [e, zm_no0.1] at h
      exact absurd h (by decide)
  unfold qX12_balance
  refine ⟨fun _ => trivial, fun _ => ⟨fun _ => ⟨fun h => ⟨fun _ => trivial, fun _ => ⟨fun _ => ⟨(key h).1, trivial⟩, fun _ => ⟨(key h).2, trivial⟩⟩⟩, fun _ => trivial⟩, fun _ => ⟨fun _ => ⟨fun h => ⟨fun _ => trivial, fun _ => ⟨fun _ => ⟨(key h).1, trivial⟩, fun _ => ⟨(key h).2, trivial⟩⟩⟩, fun _ => trivial⟩, fun _ => trivial⟩⟩⟩
theorem zqq_firstIn : qX12_firstIn r a0 a1 a2 := by
  unfold qX12_firstIn
  refine ⟨fun _ => ⟨fun _ => trivial, fun _ => ⟨fun _ => ?_, trivial⟩⟩, fun _ => trivial⟩
  refine ra_fo_i (zf_q (q := qX12_firstIn_37 r a0 a1 a2) (f := bX12_firstIn_37 r a0 a1 a2) (fun _ s => s = -1 ∨ ∃ a, a < 16 ∧ s = nI a) 16 0 (-1) (.inl rfl) (fun j s _ hj hs => ⟨?_, ?_⟩))
  · unfold qX12_firstIn_37
    refine ⟨fun _ => trivial, fun _ => ⟨fun _ => ⟨fun _ => trivial, fun _ => ⟨fun _ => ⟨fun _ => trivial, fun hne => ?_⟩, fun _ => trivial⟩⟩, fun _ => trivial⟩⟩
    obtain ⟨a, ha, rfl⟩ := hs.resolve_left hne
    exact ⟨vp_in_nI ha (by decide), trivial⟩
  · have hj' : ∃ a, a < 16 ∧ nI j = nI a := ⟨j, by omega, rfl⟩
    unfold bX12_firstIn_37
    split
    · exact hs
    · split
      · split
        · exact hs
        · split
          · split
            · exact .inr hj'
            · split
              · exact hs
              · exact .inr hj'
          · exact hs
      · exact hs
end zsq
