/-! BARS: one line for all, the reference's side -/
def zb_I (f : Nat → Nat) (J : Nat) (x : Int32) (Pr : Nat → Prop) : Prop := (x = -1 ∧ ∀ v, Pr v → f v ≤ J) ∨ ∃ v, Pr v ∧ v < 12 ∧ x = nI v ∧ J < f v ∧ ∀ u, Pr u → J < f u → f v ≤ f u
theorem zb_I_add {f : Nat → Nat} {J y : Nat} {x : Int32} {Pr Pr' : Nat → Prop} (h : zb_I f J x Pr) (hy : y < 12) (hp : ∀ v, Pr' v ↔ (Pr v ∨ v = y)) : zb_I f J (if f y ≤ J then x else if x = -1 then nI y else if zz (∃ v, x = nI v ∧ v < 12 ∧ f v ≤ f y) = true then x else nI y) Pr' := by
  by_cases c1 : f y ≤ J
  · rw [if_pos c1]
    rcases h with ⟨h1, h2⟩ | ⟨v, h1, h2, h3, h4, h5⟩
    · refine .inl ⟨h1, fun v hv => ?_⟩
      rcases (hp v).mp hv with z | z
      · exact h2 v z
      · rw [z]
        exact c1
    · refine .inr ⟨v, (hp v).mpr (.inl h1), h2, h3, h4, fun u hu hJ => ?_⟩
      rcases (hp u).mp hu with z | z
      · exact h5 u z hJ
      · rw [z] at hJ
        omega
  · rw [if_neg c1]
    rcases h with ⟨h1, h2⟩ | ⟨v, h1, h2, h3, h4, h5⟩
    · rw [if_pos h1]
      refine .inr ⟨y, (hp y).mpr (.inr rfl), hy, rfl, by omega, fun u hu hJ => ?_⟩
      rcases (hp u).mp hu with z | z
      · have := h2 u z
        omega
      · rw [z]
        exact Nat.le_refl _
    · have nx : ¬ x = -1 := fun z => by
        have h9 : ¬ nI v < 0 := nI_pos (by omega)
        rw [← h3, z] at h9
        exact absurd (by decide) h9
      rw [if_neg nx]
      by_cases c2 : f v ≤ f y
      · rw [if_pos (zz_t.mpr ⟨v, h3, h2, c2⟩)]
        refine .inr ⟨v, (hp v).mpr (.inl h1), h2, h3, h4, fun u hu hJ => ?_⟩
        rcases (hp u).mp hu with z | z
        · exact h5 u z hJ
        · rw [z]
          exact c2
      · rw [if_neg (fun z => by
          obtain ⟨v', z1, z2, z3⟩ := zz_t.mp z
          rw [h3] at z1
          have e := (nI_eq (by omega) (by omega)).mp z1
          subst e
          exact c2 z3)]
        refine .inr ⟨y, (hp y).mpr (.inr rfl), hy, rfl, by omega, fun u hu hJ => ?_⟩
        rcases (hp u).mp hu with z | z
        · have := h5 u z hJ
          omega
        · rw [z]
          exact Nat.le_refl _
theorem zb_I_iff {f : Nat → Nat} {J : Nat} {x : Int32} {Pr Pr' : Nat → Prop} (h : zb_I f J x Pr) (hp : ∀ v, Pr' v ↔ Pr v) : zb_I f J x Pr' := by
  rcases h with ⟨h1, h2⟩ | ⟨v, h1, h2, h3, h4, h5⟩
  · exact .inl ⟨h1, fun v hv => h2 v ((hp v).mp hv)⟩
  · exact .inr ⟨v, (hp v).mpr h1, h2, h3, h4, fun u hu => h5 u ((hp u).mp hu)⟩
def zb_Pr (q : List Nat) (w : Nat → Nat) (b k v : Nat) : Prop := ∃ i, 1 ≤ i ∧ ((∃ b', b' < b ∧ (zb_L q w b')[i]? = some v) ∨ (i < k ∧ (zb_L q w b)[i]? = some v))
section zqOne
variable {r : rj_M} {S : Nat → Nat} {B : Nat → Int} {q : List Nat} {w : Nat → Nat}
theorem zb_N_mem (hq : zr_line S q w) {v : Nat} : v ∈ zb_N q w ↔ zb_Pr q w 3 1 v := by
  unfold zb_N zb_Pr
  rw [List.mem_filter, zz_t]
  constructor
  · rintro ⟨h1, h2⟩
    have hv := zb_wv hq h1
    have hm : v ∈ zb_L q w (w v - 1) := zb_L_mem.mpr ⟨h1, by omega⟩
    obtain ⟨i, hi⟩ := List.getElem?_of_mem hm
    rcases i with _ | i
    · rw [List.head?_eq_getElem?] at h2
      exact absurd hi h2
    · exact ⟨i + 1, by omega, .inl ⟨w v - 1, by omega, hi⟩⟩
  · rintro ⟨i, h1, ⟨b, h2, h3⟩ | ⟨h2, -⟩⟩
    · have hp := zb_pos hq h3
      have hm := (zb_L_mem.mp (List.mem_of_getElem? h3)).1
      refine ⟨hm, fun z => ?_⟩
      rw [hp.2, Nat.add_sub_cancel, List.head?_eq_getElem?] at z
      have hl := (List.getElem?_eq_some_iff.mp h3).1
      have := (List.getElem?_inj hl (zb_L_nodup hq.1)).mp (h3.trans z.symm)
      omega
    · omega
theorem zq_next (h : zr_row (r.1 396) S B) (hq : zr_line S q w) {nn : Nat} (ok : zo_bars S nn) (hn : nn ≤ 1000) {J : Nat} (hJ : J ≤ 1000) : zb_I (fun v => S (373 + v)) J (fX12_nextBehind r (nI J)) (zb_Pr q w 3 1) ∧ qX12_nextBehind r (nI J) := by
  have hl := zb_ln12 hq
  have hS : ∀ v, v ∈ q → S (373 + v) ≤ 1000 := fun v hv => by
    have h1 := hq.2.2.2.2.2.1 v hv
    have h2 := ok.2.2.2.1
    omega
  have hg : ∀ v, v < 12 → (373 + nI v).toNatClampNeg = 373 + v ∧ vp_in (373 + nI v) 625 := fun v hv => by
    have e : 373 + nI v = nI (373 + v) := by rw [show (373 : Int32) = nI 373 from rfl, nI_add]
    rw [e]
    exact ⟨nI_clamp (by omega), vp_in_nI (by omega) (by decide)⟩
  -- one
  have step : ∀ b k x0 x, b < 3 → 1 ≤ k → k < (zb_L q w b).length → zb_I (fun v => S (373 + v)) J x (zb_Pr q w b k) → qX12_nextBehind_12 r (nI J) b x0 k x ∧ zb_I (fun v => S (373 + v)) J (bX12_nextBehind_12 r (nI J) b x0 k x) (zb_Pr q w b (k + 1)) := fun b k x0 x hb hk1 hk hI => by
    have hgk := List.getElem?_eq_getElem hk
    have hp := zb_pos hq hgk
    have hm := (zb_L_mem.mp (List.mem_of_getElem? hgk)).1
    have hlb : (zb_L q w b).length ≤ 12 := Nat.le_trans zb_L_len hl
    have e1 := hg _ hp.1
    have hrow : r.1 396 (373 + (zb_L q w b)[k]) = nI (S (373 + (zb_L q w b)[k])) := h.1 _ (by omega)
    have hSk := hS _ hm
    have hPr : ∀ v, zb_Pr q w b (k + 1) v ↔ (zb_Pr q w b k v ∨ v = (zb_L q w b)[k]) := fun v => by
      constructor
      · rintro ⟨i, i1, i2 | ⟨i2, i3⟩⟩
        · exact .inl ⟨i, i1, .inl i2⟩
        · by_cases e : i = k
          · subst e
            rw [hgk] at i3
            exact .inr (Option.some.inj i3).symm
          · exact .inl ⟨i, i1, .inr ⟨by omega, i3⟩⟩
      · rintro (⟨i, i1, i2 | ⟨i2, i3⟩⟩ | z)
        · exact ⟨i, i1, .inl i2⟩
        · exact ⟨i, i1, .inr ⟨by omega, i3⟩⟩
        · exact ⟨k, hk1, .inr ⟨Nat.lt_succ_self k, z ▸ hgk⟩⟩
    have hadd := zb_I_add hI hp.1 hPr
    have hxin : ¬ x = -1 → ∃ u, x = nI u ∧ u < 12 ∧ r.1 396 (373 + x).toNatClampNeg = nI (S (373 + u)) ∧ vp_in (373 + x) 625 ∧ S (373 + u) ≤ 1000 := fun nx => by
      rcases hI with ⟨z, -⟩ | ⟨u, u1, u2, u3, -⟩
      · exact absurd z nx
      · obtain ⟨f1, f2⟩ := hg u u2
        have hmu : u ∈ q := by
          obtain ⟨i, -, ⟨b', -, i3⟩ | ⟨-, i3⟩⟩ := u1 <;> exact (zb_L_mem.mp (List.mem_of_getElem? i3)).1
        refine ⟨u, u3, u2, ?_, ?_, hS u hmu⟩
        · rw [u3, f1]
          exact h.1 _ (by omega)
        · rw [u3]
          exact f2
    unfold qX12_nextBehind_12 bX12_nextBehind_12
    rw [zq_inLine h hq hb hgk, e1.1, hrow]
    refine ⟨⟨vp_in_nI (by omega) (by decide), e1.2, fun _ => trivial, fun _ => ⟨fun _ => trivial, fun nx => ?_⟩⟩, ?_⟩
    · obtain ⟨u, -, -, -, u4, -⟩ := hxin nx
      exact ⟨e1.2, u4, trivial⟩
    · have hif : (if nI (S (373 + (zb_L q w b)[k])) ≤ nI J then x else (if x = -1 then nI (zb_L q w b)[k] else (if r.1 396 (373 + x).toNatClampNeg ≤ nI (S (373 + (zb_L q w b)[k])) then x else nI (zb_L q w b)[k]))) = (if S (373 + (zb_L q w b)[k]) ≤ J then x else if x = -1 then nI (zb_L q w b)[k] else if zz (∃ v, x = nI v ∧ v < 12 ∧ S (373 + v) ≤ S (373 + (zb_L q w b)[k])) = true then x else nI (zb_L q w b)[k]) := by
        by_cases c1 : S (373 + (zb_L q w b)[k]) ≤ J
        · rw [if_pos (nI_le c1 (by omega)), if_pos c1]
        · rw [if_neg (nI_ge (by omega) (by omega)), if_neg c1]
          by_cases c2 : x = -1
          · rw [if_pos c2, if_pos c2]
          · obtain ⟨u, u1, u2, u3, -, u5⟩ := hxin c2
            rw [if_neg c2, if_neg c2, u3]
            by_cases c3 : S (373 + u) ≤ S (373 + (zb_L q w b)[k])
            · rw [if_pos (nI_le c3 (by omega)), if_pos (zz_t.mpr ⟨u, u1, u2, c3⟩)]
            · rw [if_neg (nI_ge (by omega) (by omega)), if_neg (fun z => by
                obtain ⟨v', z1, z2, z3⟩ := zz_t.mp z
                rw [u1] at z1
                have e := (nI_eq (by omega) (by omega)).mp z1
                subst e
                exact c3 z3)]
      rw [hif]
      exact hadd
  -- a bar
  have bar : ∀ b x, b < 3 → zb_I (fun v => S (373 + v)) J x (zb_Pr q w b 1) → qX12_nextBehind_4 r (nI J) b x ∧ zb_I (fun v => S (373 + v)) J (bX12_nextBehind_4 r (nI J) b x) (zb_Pr q w (b + 1) 1) := fun b x hb hI => by
    have hend : ∀ v, zb_Pr q w (b + 1) 1 v ↔ zb_Pr q w b (1 + ((zb_L q w b).length - 1)) v := fun v => by
      constructor
      · rintro ⟨i, i1, ⟨b', i2, i3⟩ | ⟨i2, -⟩⟩
        · by_cases e : b' = b
          · subst e
            have hil := (List.getElem?_eq_some_iff.mp i3).1
            exact ⟨i, i1, .inr ⟨by omega, i3⟩⟩
          · exact ⟨i, i1, .inl ⟨b', by omega, i3⟩⟩
        · omega
      · rintro ⟨i, i1, ⟨b', i2, i3⟩ | ⟨i2, i3⟩⟩
        · exact ⟨i, i1, .inl ⟨b', by omega, i3⟩⟩
        · exact ⟨i, i1, .inl ⟨b, Nat.lt_succ_self b, i3⟩⟩
    unfold qX12_nextBehind_4 bX12_nextBehind_4
    rw [zq_toN h hq hb]
    refine ⟨⟨fun _ => ra_fo_i (zf_q (fun k y => zb_I (fun v => S (373 + v)) J y (zb_Pr q w b k)) _ 1 x hI (fun k y k1 k2 hy => step b k x y hb k1 (by omega) hy)), trivial⟩, zb_I_iff (zf_inv (f := bX12_nextBehind_12 r (nI J) b x) (fun k y => zb_I (fun v => S (373 + v)) J y (zb_Pr q w b k)) ((zb_L q w b).length - 1) 1 x hI (fun k y k1 k2 hy => (step b k x y hb k1 (by omega) hy).2)) hend⟩
  have h0 : zb_I (fun v => S (373 + v)) J (-1) (zb_Pr q w 0 1) := .inl ⟨rfl, fun v ⟨i, i1, z⟩ => by
    rcases z with ⟨b', z, -⟩ | ⟨z, -⟩
    · exact absurd z (Nat.not_lt_zero _)
    · omega⟩
  unfold fX12_nextBehind qX12_nextBehind
  exact ⟨zf_inv (fun b x => zb_I (fun v => S (373 + v)) J x (zb_Pr q w b 1)) 3 0 (-1) h0 (fun b x _ hb hx => (bar b x (by omega) hx).2), fun _ => ra_fo_i (zf_q (fun b x => zb_I (fun v => S (373 + v)) J x (zb_Pr q w b 1)) 3 0 (-1) h0 (fun b x _ hb hx => bar b x (by omega) hx)), trivial⟩
theorem zb_N_sorted (hq : zr_line S q w) : (zb_N q w).Pairwise (fun x y => S (373 + x) < S (373 + y)) := List.Pairwise.filter _ hq.2.2.2.2.2.2
/-- the next one is the head of the rest -/
theorem zq_next_is (h : zr_row (r.1 396) S B) (hq : zr_line S q w) {nn : Nat} (ok : zo_bars S nn) (hn : nn ≤ 1000) {J : Nat} (hJ : J ≤ 1000) {pre rest : List Nat} (hN : zb_N q w = pre ++ rest) (h1 : ∀ u, u ∈ pre → S (373 + u) ≤ J) (h2 : ∀ u, u ∈ rest → J < S (373 + u)) : fX12_nextBehind r (nI J) = zo_i rest.head? := by
  rcases (zq_next h hq ok hn hJ).1 with ⟨e1, e2⟩ | ⟨v, v1, v2, v3, v4, v5⟩
  · cases rest with
    | nil => exact e1
    | cons a t =>
      have := e2 a ((zb_N_mem hq).mp (by rw [hN]; exact List.mem_append_right _ List.mem_cons_self))
      have h3 := h2 a List.mem_cons_self
      exact absurd this (by show ¬ S (373 + a) ≤ J; omega)
  · have hm := (zb_N_mem hq).mpr v1
    rw [hN] at hm
    have hv4 : J < S (373 + v) := v4
    rcases List.mem_append.mp hm with hm | hm
    · have := h1 v hm
      omega
    · cases rest with
      | nil => exact absurd hm List.not_mem_nil
      | cons a t =>
        have hs := zb_N_sorted hq
        rw [hN] at hs
        have hs2 := (List.pairwise_append.mp hs).2.1
        have ha := v5 a ((zb_N_mem hq).mp (by rw [hN]; exact List.mem_append_right _ List.mem_cons_self)) (h2 a List.mem_cons_self)
        have ha : S (373 + v) ≤ S (373 + a) := ha
        rcases List.mem_cons.mp hm with e | e
        · rw [v3, e]
          rfl
        · have := (List.pairwise_cons.mp hs2).1 v e
          omega
end zqOne
