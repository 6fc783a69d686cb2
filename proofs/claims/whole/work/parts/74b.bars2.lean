/-! BARS, the class's side -/
/-- the class's rows: the order, each one's bar, what is left -/
def zb_c (c : rj_M) (S : Nat → Nat) (q : List Nat) (w : Nat → Nat) : Prop := c.1 21 1 = nI q.length ∧ (∀ i, i < q.length → ∃ v, q[i]? = some v ∧ c.1 22 i = nI v) ∧ (∀ v, v < 12 → c.1 23 v = nI (w v) - 1) ∧ (∀ k, k < 3 → c.1 24 k = nI (S (370 + k))) ∧ c.1 21 5 = nI (S 330) ∧ c.1 21 6 = nI (S 386)
theorem zb_c_of {c t : rj_M} {S : Nat → Nat} {q : List Nat} {w : Nat → Nat} (h : zb_c c S q w) (h1 : t.1 21 = c.1 21) (h2 : t.1 22 = c.1 22) (h3 : t.1 23 = c.1 23) (h4 : t.1 24 = c.1 24) : zb_c t S q w := by
  unfold zb_c
  rw [h1, h2, h3, h4]
  exact h
theorem zb_pred {n : Nat} (h : 1 ≤ n) : nI n - 1 = nI (n - 1) := by
  rw [show (1 : Int32) = nI 1 from rfl, pk_sub h]
theorem zb_none {n : Nat} (h : n ≤ 3) : nI n - 1 = -1 ↔ n = 0 := by
  rcases (show n = 0 ∨ n = 1 ∨ n = 2 ∨ n = 3 by omega) with rfl | rfl | rfl | rfl <;> decide
theorem zb_is {n b : Nat} (h : n ≤ 3) (hb : b < 3) : nI n - 1 = nI b ↔ n = b + 1 := by
  rcases (show n = 0 ∨ n = 1 ∨ n = 2 ∨ n = 3 by omega) with rfl | rfl | rfl | rfl <;> rcases (show b = 0 ∨ b = 1 ∨ b = 2 by omega) with rfl | rfl | rfl <;> decide
theorem zb_ln12 {S : Nat → Nat} {q : List Nat} {w : Nat → Nat} (hq : zr_line S q w) : q.length ≤ 12 := zq_len 12 q hq.1 hq.2.1
theorem zb_wv {S : Nat → Nat} {q : List Nat} {w : Nat → Nat} (hq : zr_line S q w) {v : Nat} (hv : v ∈ q) : v < 12 ∧ 1 ≤ w v ∧ w v ≤ 3 := by
  have h1 := hq.2.1 v hv
  have h2 := (hq.2.2.1 v h1).mp hv
  have h3 := hq.2.2.2.1 v h1
  exact ⟨h1, by omega, h3⟩
section zcBars
variable {c : rj_M} {S : Nat → Nat} {q : List Nat} {w : Nat → Nat}
theorem zc_barOf (h : zb_c c S q w) {v : Nat} (hv : v < 12) : fX0_barOf c (nI v) = nI (w v) - 1 := by
  unfold fX0_barOf
  rw [if_neg (nI_pos (by omega)), if_pos (show nI v < 12 from nI_lt (b := 12) hv (by decide)), nI_clamp (n := v) (by omega)]
  exact h.2.2.1 v hv
theorem zc_ord (h : zb_c c S q w) {j : Nat} (hj : j < q.length) : c.1 22 j = nI q[j] := by
  obtain ⟨v, h1, h2⟩ := h.2.1 j hj
  rw [List.getElem?_eq_getElem hj] at h1
  cases h1
  exact h2
theorem zc_floop (h : zb_c c S q w) (hq : zr_line S q w) {b : Nat} (hb : b < 3) : ∀ n j, j + n = 12 → Sum.elim (fun _ => (-1 : Int32)) (fun w2 => w2) (rj_mx (bX0_firstOf_2 c (nI b)) n j ()) = zo_i ((zb_L (q.drop j) w b).head?)
  | 0, j, hj => by
    have hl := zb_ln12 hq
    rw [List.drop_eq_nil_of_le (by omega)]
    rfl
  | n + 1, j, hj => by
    have hl := zb_ln12 hq
    by_cases c1 : q.length ≤ j
    · have e : bX0_firstOf_2 c (nI b) j () = .inl (.inr ()) := by
        unfold bX0_firstOf_2
        rw [h.1]
        exact if_pos (nI_le c1 (by omega))
      rw [rj_mx_b e, List.drop_eq_nil_of_le c1]
      rfl
    · have hjl : j < q.length := by omega
      have hm := List.getElem_mem hjl
      have hw := zb_wv hq hm
      have e0 : bX0_firstOf_2 c (nI b) j () = if w q[j] = b + 1 then .inr (nI q[j]) else .inl (.inl ()) := by
        unfold bX0_firstOf_2
        rw [h.1, if_neg (nI_ge hjl (by omega)), nI_clamp (n := j) (by omega), zc_ord h hjl, zc_barOf h hw.1]
        by_cases c2 : w q[j] = b + 1
        · rw [if_pos ((zb_is hw.2.2 hb).mpr c2), if_pos c2]
        · rw [if_neg (fun z => c2 ((zb_is hw.2.2 hb).mp z)), if_neg c2]
      have hd : q.drop j = q[j] :: q.drop (j + 1) := List.drop_eq_getElem_cons hjl
      by_cases c2 : w q[j] = b + 1
      · rw [if_pos c2] at e0
        rw [rj_mx_r e0, hd]
        unfold zb_L
        rw [List.filter_cons_of_pos (by simpa using c2)]
        rfl
      · rw [if_neg c2] at e0
        rw [rj_mx_l e0, hd, zc_floop h hq hb n (j + 1) (by omega)]
        unfold zb_L
        rw [List.filter_cons_of_neg (by simpa using c2)]
theorem zc_firstOf (h : zb_c c S q w) (hq : zr_line S q w) {b : Nat} (hb : b < 3) : fX0_firstOf c (nI b) = zo_i ((zb_L q w b).head?) := by
  have hz := zc_floop h hq hb 12 0 rfl
  rw [List.drop_zero] at hz
  exact hz
theorem zc_lengthOf (h : zb_c c S q w) (hq : zr_line S q w) {b : Nat} (hb : b < 3) : fX0_lengthOf c (nI b) = nI (zb_L q w b).length := by
  have hcnt := zb_count 12 (zb_L q w b) (zb_L_nodup hq.1) (fun v hv => hq.2.1 v (zb_L_mem.mp hv).1) (fun v => decide (w v = b + 1)) (fun v hv => by
    rw [decide_eq_true_iff, zb_L_mem]
    exact ⟨fun z => ⟨(hq.2.2.1 v hv).mpr (by omega), z⟩, fun z => z.2⟩)
  rw [← hcnt]
  unfold fX0_lengthOf
  have hz := zf_rel (f := bX0_lengthOf_4 c (nI b)) (g := fun v s => if decide (w v = b + 1) = true then s + 1 else s) (fun _ x y => x = nI y) 12 0 (0 : Int32) (0 : Nat) rfl (fun j x y _ hj hx => by
    subst hx
    have h3 := hq.2.2.2.1 j (by omega)
    unfold bX0_lengthOf_4
    rw [nI_clamp (n := j) (by omega), h.2.2.1 j (by omega)]
    by_cases c2 : w j = b + 1
    · rw [if_pos ((zb_is h3 hb).mpr c2), if_pos (decide_eq_true c2), nI_1]
    · rw [if_neg (fun z => c2 ((zb_is h3 hb).mp z)), if_neg (by simpa using c2)])
  exact hz
/-- the wait at a place of a line -/
def zb_wt (S : Nat → Nat) (b i : Nat) : Nat := if i = 0 then 0 else S (370 + b) + (i - 1) * S 330
theorem zb_wt_le {S : Nat → Nat} {n b i : Nat} (ok : zo_bars S n) (hb : b < 3) (hi : i < 12) : zb_wt S b i ≤ 110 := by
  unfold zb_wt
  have h1 := ok.2.1
  have h2 := ok.2.2.1 b hb
  split
  · omega
  · have h3 : (i - 1) * S 330 ≤ 10 * 10 := Nat.mul_le_mul (by omega) h1
    omega
theorem zc_tloop (h : zb_c c S q w) (hq : zr_line S q w) {v : Nat} (hv : v < 12) (hw : w v ≠ 0) : ∀ n j m i, j + n = 12 → (zb_L (q.drop j) w (w v - 1))[i]? = some v → (rj_br (bX0_minutesTill_22 c (nI v)) n j (nI m)).2 = nI (m + i)
  | 0, j, m, i, hj, hi => by
    have hl := zb_ln12 hq
    rw [List.drop_eq_nil_of_le (by omega)] at hi
    cases hi
  | n + 1, j, m, i, hj, hi => by
    have hl := zb_ln12 hq
    have hv3 := hq.2.2.2.1 v hv
    by_cases c1 : q.length ≤ j
    · rw [List.drop_eq_nil_of_le c1] at hi
      cases hi
    · have hjl : j < q.length := by omega
      have hwj := zb_wv hq (List.getElem_mem hjl)
      have hd : q.drop j = q[j] :: q.drop (j + 1) := List.drop_eq_getElem_cons hjl
      have hnd : (q.drop j).Nodup := List.Pairwise.drop hq.1
      rw [hd] at hi hnd
      have e0 : bX0_minutesTill_22 c (nI v) j (nI m) = if q[j] = v then .inr (j, nI m) else if w q[j] = w v then .inl (nI (m + 1)) else .inl (nI m) := by
        unfold bX0_minutesTill_22
        rw [h.1, if_neg (nI_ge hjl (by omega)), nI_clamp (n := j) (by omega), zc_ord h hjl, zc_barOf h hwj.1, zc_barOf h hv, nI_1]
        by_cases c2 : q[j] = v
        · rw [if_pos (by rw [c2]), if_pos c2]
        · rw [if_neg (fun z => c2 ((nI_eq (by omega) (by omega)).mp z)), if_neg c2]
          by_cases c3 : w q[j] = w v
          · rw [if_pos (by rw [c3]), if_pos c3]
          · rw [if_neg (fun z => c3 (by rw [zb_pred hwj.2.1, zb_pred (by omega)] at z; have := (nI_eq (by omega) (by omega)).mp z; omega)), if_neg c3]
      by_cases c2 : q[j] = v
      · rw [if_pos c2] at e0
        rw [rj_br_r e0]
        unfold zb_L at hi
        rw [List.filter_cons_of_pos (by rw [c2]; simp; omega)] at hi
        rcases i with _ | i
        · rfl
        · rw [List.getElem?_cons_succ] at hi
          have h5 := List.mem_of_getElem? hi
          have h6 := (List.mem_filter.mp h5).1
          rw [← c2] at h6
          exact absurd h6 (List.nodup_cons.mp hnd).1
      · rw [if_neg c2] at e0
        unfold zb_L at hi
        by_cases c3 : w q[j] = w v
        · rw [if_pos c3] at e0
          rw [List.filter_cons_of_pos (by rw [c3]; simp; omega)] at hi
          rcases i with _ | i
          · rw [List.getElem?_cons_zero] at hi
            exact absurd (Option.some.inj hi) c2
          · rw [List.getElem?_cons_succ] at hi
            rw [rj_br_l e0, zc_tloop h hq hv hw n (j + 1) (m + 1) i (by omega) hi]
            exact congrArg nI (by omega)
        · rw [if_neg c3] at e0
          rw [List.filter_cons_of_neg (by simp; omega)] at hi
          rw [rj_br_l e0]
          exact zc_tloop h hq hv hw n (j + 1) m i (by omega) hi
theorem zc_till (h : zb_c c S q w) (hq : zr_line S q w) {v i : Nat} (hv : v < 12) (hw : w v ≠ 0) (hi : (zb_L q w (w v - 1))[i]? = some v) : fX0_minutesTill c (nI v) = nI (zb_wt S (w v - 1) i) := by
  have hv3 := hq.2.2.2.1 v hv
  have hl := zb_ln12 hq
  have hi12 : i < 12 := by
    have h1 := (List.getElem?_eq_some_iff.mp hi).1
    have h2 := zb_L_len (q := q) (w := w) (b := w v - 1)
    omega
  have hlp : (rj_br (bX0_minutesTill_22 c (nI v)) 12 0 0).2 = nI i := by
    have := zc_tloop h hq hv hw 12 0 0 i rfl (by rw [List.drop_zero]; exact hi)
    rw [Nat.zero_add] at this
    exact this
  unfold fX0_minutesTill zb_wt
  rw [zc_barOf h hv, zb_pred (by omega), if_neg (nI_pos (by omega)), if_pos (show nI (w v - 1) < 3 from nI_lt (b := 3) (by omega) (by decide)), hlp, nI_clamp (n := w v - 1) (by omega), h.2.2.2.1 (w v - 1) (by omega), h.2.2.2.2.1]
  by_cases c1 : i = 0
  · rw [if_pos (by rw [c1]; rfl), if_pos c1]
    rfl
  · rw [if_neg (nI_ne0 (by omega) (by omega)), if_neg c1, zb_pred (by omega), pk_mul, nI_add]
theorem zc_till0 (h : zb_c c S q w) {v : Nat} (hv : v < 12) (hw : w v = 0) : fX0_minutesTill c (nI v) = -1 := by
  unfold fX0_minutesTill
  rw [zc_barOf h hv, hw]
  exact if_pos (by decide)
/-- where each one is in the own line -/
noncomputable def zb_g (S : Nat → Nat) (q : List Nat) (w : Nat → Nat) (v : Nat) : Nat := zb_wt S (w v - 1) ((zb_L q w (w v - 1)).idxOf v)
theorem zb_idx {l : List Nat} {i v : Nat} (hn : l.Nodup) (hi : l[i]? = some v) : l.idxOf v = i := by
  have hl := (List.getElem?_eq_some_iff.mp hi).1
  have hm := List.mem_of_getElem? hi
  have h1 := List.idxOf_lt_length_of_mem hm
  have h2 : l[l.idxOf v]? = some v := by rw [List.getElem?_eq_getElem h1, List.getElem_idxOf h1]
  exact (List.getElem?_inj h1 hn).mp (h2.trans hi.symm)
theorem zb_at {v : Nat} (hq : zr_line S q w) (hv : v < 12) (hw : w v ≠ 0) : ∃ i, (zb_L q w (w v - 1))[i]? = some v ∧ zb_g S q w v = zb_wt S (w v - 1) i ∧ i < 12 := by
  have hm : v ∈ zb_L q w (w v - 1) := zb_L_mem.mpr ⟨(hq.2.2.1 v hv).mpr hw, by omega⟩
  obtain ⟨i, hi⟩ := List.getElem?_of_mem hm
  refine ⟨i, hi, ?_, ?_⟩
  · unfold zb_g
    rw [zb_idx (zb_L_nodup hq.1) hi]
  · have h1 := (List.getElem?_eq_some_iff.mp hi).1
    have h2 := zb_L_len (q := q) (w := w) (b := w v - 1)
    have h3 := zb_ln12 hq
    omega
theorem zb_sum_le {g : Nat → Nat} {M : Nat} : ∀ l : List Nat, (∀ v, v ∈ l → g v ≤ M) → zb_sum g l ≤ l.length * M
  | [], _ => Nat.zero_le _
  | v :: t, h => by
    have h1 := h v List.mem_cons_self
    have h2 := zb_sum_le t (fun x hx => h x (List.mem_cons_of_mem _ hx))
    rw [List.length_cons, Nat.succ_mul]
    show g v + zb_sum g t ≤ _
    omega
theorem zc_sumLines (h : zb_c c S q w) (hq : zr_line S q w) : fX0_sumInLines c = nI (zb_sum (zb_g S q w) q) := by
  have ht := zb_total (g := zb_g S q w) 12 q hq.1 hq.2.1 (fun v => decide (w v ≠ 0)) (fun v hv => by
    rw [decide_eq_true_iff]
    exact (hq.2.2.1 v hv).symm)
  rw [← ht]
  unfold fX0_sumInLines
  have hz := zf_rel (f := bX0_sumInLines_4 c) (g := fun v s => if decide (w v ≠ 0) = true then s + zb_g S q w v else s) (fun _ x y => x = nI y) 12 0 (0 : Int32) (0 : Nat) rfl (fun j x y _ hj hx => by
    subst hx
    have hj12 : j < 12 := by omega
    have h3 := hq.2.2.2.1 j hj12
    unfold bX0_sumInLines_4
    rw [nI_clamp (n := j) (by omega), h.2.2.1 j hj12]
    by_cases c2 : w j = 0
    · rw [if_pos ((zb_none h3).mpr c2), if_neg (by simpa using c2)]
    · obtain ⟨i, i1, i2, -⟩ := zb_at hq hj12 c2
      rw [if_neg (fun z => c2 ((zb_none h3).mp z)), if_pos (by simpa using c2), zc_till h hq hj12 c2 i1, ← i2, nI_add])
  exact hz
/-- one line for all: who waits, in the order in which they came -/
noncomputable def zb_N (q : List Nat) (w : Nat → Nat) : List Nat := q.filter (fun v => zz ((zb_L q w (w v - 1)).head? ≠ some v))
def zb_mf (f : Nat → Nat) : Nat := rj_fo (fun j s => if f s ≤ f j then s else j) 2 1 0
theorem zb_mf3 {f : Nat → Nat} : zb_mf f < 3 := by
  unfold zb_mf
  simp only [rj_fo, Nat.reduceAdd]
  split <;> split <;> omega
def zb_stp (sv : Nat) (p : Nat × (Nat → Nat)) : Nat × (Nat → Nat) := (p.1 + p.2 (zb_mf p.2), fun j => if j = zb_mf p.2 then p.2 j + sv else p.2 j)
def zb_run (sv : Nat) : Nat → Nat × (Nat → Nat) → Nat × (Nat → Nat)
  | 0, p => p
  | n + 1, p => zb_run sv n (zb_stp sv p)
noncomputable def zb_f0 (S : Nat → Nat) (q : List Nat) (w : Nat → Nat) (b : Nat) : Nat := if (zb_L q w b).length = 0 then 0 else S (370 + b)
/-- bounds along the one line -/
def zb_ok (t : Nat) (p : Nat × (Nat → Nat)) : Prop := (∀ j, j < 3 → p.2 j ≤ 10 + 10 * t) ∧ p.1 ≤ t * 200
theorem zb_ok_s {t sv : Nat} {p : Nat × (Nat → Nat)} (h : zb_ok t p) (hs : sv ≤ 10) (ht : t ≤ 12) : zb_ok (t + 1) (zb_stp sv p) := by
  have h3 := zb_mf3 (f := p.2)
  refine ⟨fun j hj => ?_, ?_⟩
  · show (if j = zb_mf p.2 then p.2 j + sv else p.2 j) ≤ _
    have := h.1 j hj
    split <;> omega
  · show p.1 + p.2 (zb_mf p.2) ≤ _
    have h1 := h.1 _ h3
    have h2 := h.2
    omega
theorem zc_freeFirst {t : rj_M} {f : Nat → Nat} (hf : ∀ j, j < 3 → t.1 25 j = nI (f j)) (hb : ∀ j, j < 3 → f j < 2 ^ 20) : fX0_freeFirst t = nI (zb_mf f) := by
  unfold fX0_freeFirst zb_mf
  have hz := zf_rel (f := bX0_freeFirst_4 t) (g := fun j s => if f s ≤ f j then s else j) (fun _ x y => x = nI y ∧ y < 3) 2 1 (0 : Int32) (0 : Nat) ⟨rfl, by decide⟩ (fun j x y h1 hj hx => by
    obtain ⟨rfl, hy⟩ := hx
    have b1 := hb y hy
    have b2 := hb j (by omega)
    unfold bX0_freeFirst_4
    rw [nI_clamp (n := y) (by omega), nI_clamp (n := j) (by omega), hf y hy, hf j (by omega)]
    by_cases c1 : f y ≤ f j
    · rw [if_pos (nI_le c1 (by omega)), if_pos c1]
      exact ⟨rfl, hy⟩
    · rw [if_neg (nI_ge (by omega) (by omega)), if_neg c1]
      exact ⟨rfl, by omega⟩)
  exact hz.1
theorem zc_one0 (h : zb_c c S q w) (hq : zr_line S q w) : (∀ j, j < 3 → (rj_fo (bX0_sumInOneLine_2 c) 3 0 c).1 25 j = nI (zb_f0 S q w j)) ∧ (∀ k, k ≠ 25 → (rj_fo (bX0_sumInOneLine_2 c) 3 0 c).1 k = c.1 k) ∧ (rj_fo (bX0_sumInOneLine_2 c) 3 0 c).2 = c.2 := by
  have h1 := zf_inv (f := bX0_sumInOneLine_2 c) (fun n t => (∀ j, j < n → t.1 25 j = nI (zb_f0 S q w j)) ∧ (∀ k, k ≠ 25 → t.1 k = c.1 k) ∧ t.2 = c.2) 3 0 c ⟨fun j hj => absurd hj (Nat.not_lt_zero _), fun _ _ => rfl, rfl⟩ (fun n t _ hn ⟨t1, t2, t3⟩ => by
    have hn3 : n < 3 := by omega
    have ht : zb_c t S q w := zb_c_of h (t2 21 (by decide)) (t2 22 (by decide)) (t2 23 (by decide)) (t2 24 (by decide))
    have fin : ∀ v, v = nI (zb_f0 S q w n) → (∀ j, j < n + 1 → (rj_pi t 25 n v).1 25 j = nI (zb_f0 S q w j)) ∧ (∀ k, k ≠ 25 → (rj_pi t 25 n v).1 k = c.1 k) ∧ (rj_pi t 25 n v).2 = c.2 := fun v hv => ⟨fun j hj => by
      by_cases e : j = n
      · rw [e, zm_pi_eq]
        exact hv
      · rw [zm_pi_ne2 e]
        exact t1 j (by omega), fun k hk => (zm_pi_ne hk).trans (t2 k hk), t3⟩
    have hbd : ∀ k, (zb_L q w n).head? = some k → k < 2 ^ 31 := fun k hk => by
      have h5 : k ∈ zb_L q w n := List.mem_of_mem_head? hk
      have := (zb_wv hq (zb_L_mem.mp h5).1).1
      omega
    unfold bX0_sumInOneLine_2
    rw [zc_firstOf ht hq hn3, nI_clamp (n := n) (by omega), ht.2.2.2.1 n hn3]
    by_cases c1 : (zb_L q w n).head? = none
    · rw [if_pos ((zo_none hbd).mpr c1)]
      refine fin 0 ?_
      unfold zb_f0
      rw [List.head?_eq_none_iff.mp c1]
      rfl
    · rw [if_neg (fun z => c1 ((zo_none hbd).mp z))]
      refine fin _ ?_
      unfold zb_f0
      rw [if_neg (fun z => c1 (by rw [List.eq_nil_of_length_eq_zero z]; rfl))])
  exact h1
theorem zc_one1 (h : zb_c c S q w) (hq : zr_line S q w) {nn : Nat} (ok : zo_bars S nn) (n : Nat) : ∀ (j t : Nat) (p : Nat × (Nat → Nat)) (mem : rj_M), j + n = 12 → zb_ok t p → t ≤ j → mem.1 21 = c.1 21 → mem.1 22 = c.1 22 → mem.1 23 = c.1 23 → mem.1 24 = c.1 24 → (∀ i, i < 3 → mem.1 25 i = nI (p.2 i)) → (∀ k, k ≠ 25 → mem.1 k = c.1 k) → mem.2 = c.2 → ((rj_br (bX0_sumInOneLine_42 c) n j (nI p.1, mem)).2.1 = nI (zb_run (S 330) ((q.drop j).filter (fun v => zz ((zb_L q w (w v - 1)).head? ≠ some v))).length p).1 ∧ (∀ k, k ≠ 25 → (rj_br (bX0_sumInOneLine_42 c) n j (nI p.1, mem)).2.2.1 k = c.1 k) ∧ (rj_br (bX0_sumInOneLine_42 c) n j (nI p.1, mem)).2.2.2 = c.2) := by
  have hl := zb_ln12 hq
  induction n with
  | zero =>
    intro j t p mem hj _ _ _ _ _ _ _ m5 m6
    rw [List.drop_eq_nil_of_le (by omega)]
    exact ⟨rfl, m5, m6⟩
  | succ n ih =>
    intro j t p mem hj hp htj m1 m2 m3 m4 mf m5 m6
    have hm : zb_c mem S q w := zb_c_of h m1 m2 m3 m4
    by_cases c1 : q.length ≤ j
    · have e : bX0_sumInOneLine_42 c j (nI p.1, mem) = .inr (j, (nI p.1, mem)) := by
        unfold bX0_sumInOneLine_42
        show (if mem.1 21 1 ≤ nI j then _ else _) = _
        rw [hm.1]
        exact if_pos (nI_le c1 (by omega))
      rw [rj_br_r e, List.drop_eq_nil_of_le c1]
      exact ⟨rfl, m5, m6⟩
    · have hjl : j < q.length := by omega
      have hwj := zb_wv hq (List.getElem_mem hjl)
      have hd : q.drop j = q[j] :: q.drop (j + 1) := List.drop_eq_getElem_cons hjl
      have hmf := zb_mf3 (f := p.2)
      have hpb := hp.1
      have hff := zc_freeFirst (t := mem) (f := p.2) mf (fun i hi => by have := hpb i hi; omega)
      have hbd : ∀ k, (zb_L q w (w q[j] - 1)).head? = some k → k < 2 ^ 31 := fun k hk => by
        have h5 : k ∈ zb_L q w (w q[j] - 1) := List.mem_of_mem_head? hk
        have := (zb_wv hq (zb_L_mem.mp h5).1).1
        omega
      have hfst : (fX0_firstOf mem (fX0_barOf mem (nI q[j])) = nI q[j]) ↔ (zb_L q w (w q[j] - 1)).head? = some q[j] := by
        rw [zc_barOf hm hwj.1, zb_pred hwj.2.1, zc_firstOf hm hq (by omega)]
        cases hh : (zb_L q w (w q[j] - 1)).head? with
        | none =>
          refine ⟨fun z => ?_, fun z => by cases z⟩
          have h7 : ¬ nI q[j] < 0 := nI_pos (by omega)
          rw [← z] at h7
          exact absurd (by decide) h7
        | some x =>
          have hx := hbd x hh
          constructor
          · intro z
            rw [(nI_eq hx (by omega)).mp z]
          · intro z
            cases z
            rfl
      have e0 : bX0_sumInOneLine_42 c j (nI p.1, mem) = if (zb_L q w (w q[j] - 1)).head? = some q[j] then .inl (nI p.1, mem) else .inl (nI (zb_stp (S 330) p).1, rj_pi mem 25 (zb_mf p.2) (nI (p.2 (zb_mf p.2) + S 330))) := by
        unfold bX0_sumInOneLine_42
        show (if mem.1 21 1 ≤ nI j then _ else (if fX0_firstOf mem (fX0_barOf mem (mem.1 22 (nI j).toNatClampNeg)) = mem.1 22 (nI j).toNatClampNeg then Sum.inl (nI p.1, mem) else .inl ((nI p.1 + mem.1 25 (fX0_freeFirst mem).toNatClampNeg), rj_pi mem 25 (fX0_freeFirst mem).toNatClampNeg (mem.1 25 (fX0_freeFirst mem).toNatClampNeg + mem.1 21 5)))) = _
        rw [hm.1, if_neg (nI_ge hjl (by omega)), nI_clamp (n := j) (by omega), zc_ord hm hjl, hff, nI_clamp (n := zb_mf p.2) (by omega), mf _ hmf, hm.2.2.2.2.1, nI_add, nI_add]
        by_cases c2 : (zb_L q w (w q[j] - 1)).head? = some q[j]
        · rw [if_pos (hfst.mpr c2), if_pos c2]
        · rw [if_neg (fun z => c2 (hfst.mp z)), if_neg c2]
          rfl
      by_cases c2 : (zb_L q w (w q[j] - 1)).head? = some q[j]
      · rw [if_pos c2] at e0
        rw [rj_br_l e0, hd, List.filter_cons_of_neg (by rw [zz_t]; exact fun z => z c2)]
        exact ih (j + 1) t p mem (by omega) hp (by omega) m1 m2 m3 m4 mf m5 m6
      · rw [if_neg c2] at e0
        rw [rj_br_l e0, hd, List.filter_cons_of_pos (p := fun v => zz ((zb_L q w (w v - 1)).head? ≠ some v)) (zz_t.mpr c2), List.length_cons]
        refine ih (j + 1) (t + 1) (zb_stp (S 330) p) _ (by omega) (zb_ok_s hp ok.2.1 (by omega)) (by omega) ?_ ?_ ?_ ?_ (fun i hi => ?_) (fun k hk => (zm_pi_ne hk).trans (m5 k hk)) m6
        · rw [zm_pi_ne (by decide)]
          exact m1
        · rw [zm_pi_ne (by decide)]
          exact m2
        · rw [zm_pi_ne (by decide)]
          exact m3
        · rw [zm_pi_ne (by decide)]
          exact m4
        · show _ = nI (if i = zb_mf p.2 then p.2 i + S 330 else p.2 i)
          by_cases e : i = zb_mf p.2
          · rw [if_pos e, e, zm_pi_eq]
          · rw [if_neg e, zm_pi_ne2 e]
            exact mf i hi
theorem zc_sumOne (h : zb_c c S q w) (hq : zr_line S q w) {nn : Nat} (ok : zo_bars S nn) : fX0_sumInOneLine c = nI (zb_run (S 330) (zb_N q w).length (0, zb_f0 S q w)).1 ∧ (∀ k, k ≠ 25 → (mX0_sumInOneLine c).1 k = c.1 k) ∧ (mX0_sumInOneLine c).2 = c.2 := by
  obtain ⟨g1, g2, g3⟩ := zc_one0 h hq
  have hok0 : zb_ok 0 (0, zb_f0 S q w) := ⟨fun j hj => by
    show zb_f0 S q w j ≤ _
    have := ok.2.2.1 j hj
    unfold zb_f0
    split <;> omega, Nat.zero_le _⟩
  have hz := zc_one1 h hq ok 12 0 0 (0, zb_f0 S q w) (rj_fo (bX0_sumInOneLine_2 c) 3 0 c) rfl hok0 (Nat.zero_le _) (g2 21 (by decide)) (g2 22 (by decide)) (g2 23 (by decide)) (g2 24 (by decide)) (fun i hi => g1 i (by omega)) g2 g3
  rw [List.drop_zero, show nI ((0 : Nat), zb_f0 S q w).1 = (0 : Int32) from rfl] at hz
  unfold fX0_sumInOneLine mX0_sumInOneLine zb_N
  exact hz
end zcBars
