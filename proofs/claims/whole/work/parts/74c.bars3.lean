/-! BARS: who enters, who goes out -/
def zb_inS (S : Nat → Nat) (b v : Nat) : Nat → Nat := fun k => if k = 373 + v then S 385 + 1 else if k = 385 then S 385 + 1 else if k = 331 + 13 * b then S k + 1 else if k = 332 + 13 * b + S (331 + 13 * b) then v else if k = 370 + b ∧ S (331 + 13 * b) = 0 then S 330 else S k
def zb_outS (S : Nat → Nat) (b i : Nat) : Nat → Nat := fun k => if k = 331 + 13 * b then S k - 1 else if 332 + 13 * b + i ≤ k ∧ k + 1 < 332 + 13 * b + S (331 + 13 * b) then S (k + 1) else if k = 370 + b ∧ i = 0 then S 330 else S k
theorem zr_line_congr {S S' : Nat → Nat} {q : List Nat} {w : Nat → Nat} (h : zr_line S q w) (e1 : ∀ k, 331 ≤ k → k < 370 → S' k = S k) (e2 : ∀ k, 373 ≤ k → k ≤ 385 → S' k = S k) : zr_line S' q w := by
  have hl := zb_ln12 h
  obtain ⟨a1, a2, a3, a4, a5, a6, a7⟩ := h
  refine ⟨a1, a2, a3, a4, fun b hb => ?_, fun v hv => ?_, ?_⟩
  · obtain ⟨b1, b2⟩ := a5 b hb
    have hle : (zb_L q w b).length ≤ 12 := Nat.le_trans zb_L_len hl
    refine ⟨(e1 _ (by omega) (by omega)).trans b1, fun k hk => ?_⟩
    have hk12 : k < 12 := Nat.lt_of_lt_of_le hk hle
    rw [e1 _ (by omega) (by omega)]
    exact b2 k hk
  · have h12 := a2 v hv
    rw [e2 (373 + v) (by omega) (by omega), e2 385 (by decide) (by decide)]
    exact a6 v hv
  · refine a7.imp_of_mem (fun {x y} hx hy h => ?_)
    have h1 := a2 x hx
    have h2 := a2 y hy
    rw [e2 (373 + x) (by omega) (by omega), e2 (373 + y) (by omega) (by omega)]
    exact h
theorem zb_c_congr {c : rj_M} {S S' : Nat → Nat} {q : List Nat} {w : Nat → Nat} (h : zb_c c S q w) (e1 : ∀ k, k < 3 → S' (370 + k) = S (370 + k)) (e2 : S' 330 = S 330) (e3 : S' 386 = S 386) : zb_c c S' q w :=
  ⟨h.1, h.2.1, h.2.2.1, fun k hk => by rw [e1 k hk]; exact h.2.2.2.1 k hk, by rw [e2]; exact h.2.2.2.2.1, by rw [e3]; exact h.2.2.2.2.2⟩
section zbMoves
variable {S : Nat → Nat} {q : List Nat} {w : Nat → Nat}
theorem zb_out_in {v : Nat} (hq : zr_line S q w) (hv : v < 12) (hw : w v = 0) : v ∉ q := fun h => (hq.2.2.1 v hv).mp h hw
theorem zb_in_len {v : Nat} (hq : zr_line S q w) (hv : v < 12) (hw : w v = 0) : q.length < 12 := by
  have hn : (q ++ [v]).Nodup := List.nodup_append.mpr ⟨hq.1, List.nodup_cons.mpr ⟨List.not_mem_nil, List.nodup_nil⟩, fun a ha b hb e => by
    rw [List.mem_singleton] at hb
    exact zb_out_in hq hv hw (hb ▸ e ▸ ha)⟩
  have := zq_len 12 (q ++ [v]) hn (fun u hu => by
    rcases List.mem_append.mp hu with h | h
    · exact hq.2.1 u h
    · rw [List.mem_singleton.mp h]
      exact hv)
  rw [List.length_append, List.length_singleton] at this
  omega
theorem zb_in_line {b v : Nat} (hq : zr_line S q w) (hb : b < 3) (hv : v < 12) (hw : w v = 0) : zr_line (zb_inS S b v) (q ++ [v]) (zb_w w v (b + 1)) := by
  have hno := zb_out_in hq hv hw
  have hlen := zb_in_len hq hv hw
  have hlb : (zb_L q w b).length < 12 := Nat.lt_of_le_of_lt zb_L_len hlen
  have hSb : S (331 + 13 * b) = (zb_L q w b).length := (hq.2.2.2.2.1 b hb).1
  have e373 : ∀ x, x < 12 → x ≠ v → zb_inS S b v (373 + x) = S (373 + x) := fun x hx hne => by
    unfold zb_inS
    rw [if_neg (by omega), if_neg (by omega), if_neg (by omega), if_neg (by omega), if_neg (by omega)]
  have e373v : zb_inS S b v (373 + v) = S 385 + 1 := if_pos rfl
  have e385 : zb_inS S b v 385 = S 385 + 1 := by
    unfold zb_inS
    rw [if_neg (by omega), if_pos rfl]
  refine ⟨List.nodup_append.mpr ⟨hq.1, List.nodup_cons.mpr ⟨List.not_mem_nil, List.nodup_nil⟩, fun a ha b hb e => by
    rw [List.mem_singleton] at hb
    exact hno (hb ▸ e ▸ ha)⟩, fun u hu => ?_, fun u hu => ?_, fun u hu => ?_, fun b' hb' => ?_, fun u hu => ?_, ?_⟩
  · rcases List.mem_append.mp hu with h | h
    · exact hq.2.1 u h
    · rw [List.mem_singleton.mp h]
      exact hv
  · rw [List.mem_append, List.mem_singleton]
    by_cases e : u = v
    · subst e
      rw [zb_w_eq]
      exact ⟨fun _ => Nat.succ_ne_zero _, fun _ => .inr rfl⟩
    · rw [zb_w_ne e, ← hq.2.2.1 u hu]
      exact ⟨fun z => z.elim id (fun z => absurd z e), .inl⟩
  · by_cases e : u = v
    · subst e
      rw [zb_w_eq]
      omega
    · rw [zb_w_ne e]
      exact hq.2.2.2.1 u hu
  · show zb_inS S b v (331 + 13 * b') = (zb_L (q ++ [v]) (zb_w w v (b + 1)) b').length ∧ ∀ k, k < (zb_L (q ++ [v]) (zb_w w v (b + 1)) b').length → (zb_L (q ++ [v]) (zb_w w v (b + 1)) b')[k]? = some (zb_inS S b v (332 + 13 * b' + k))
    rw [zb_in_L hno]
    by_cases e : b' = b
    · subst e
      rw [if_pos rfl, List.length_append, List.length_singleton]
      refine ⟨?_, fun k hk => ?_⟩
      · unfold zb_inS
        rw [if_neg (by omega), if_neg (by omega), if_pos rfl, hSb]
      · by_cases ek : k = (zb_L q w b').length
        · subst ek
          rw [List.getElem?_append_right (Nat.le_refl _), Nat.sub_self]
          show some v = _
          unfold zb_inS
          rw [if_neg (by omega), if_neg (by omega), if_neg (by omega), if_pos (by omega)]
        · rw [List.getElem?_append_left (by omega)]
          have h5 := (hq.2.2.2.2.1 b' hb).2 k (show k < (zb_L q w b').length by omega)
          unfold zb_inS
          rw [if_neg (by omega), if_neg (by omega), if_neg (by omega), if_neg (by omega), if_neg (by omega)]
          exact h5
    · rw [if_neg e]
      have hl' : (zb_L q w b').length < 12 := Nat.lt_of_le_of_lt zb_L_len hlen
      refine ⟨?_, fun k hk => ?_⟩
      · unfold zb_inS
        rw [if_neg (by omega), if_neg (by omega), if_neg (by omega), if_neg (by omega), if_neg (by omega)]
        exact (hq.2.2.2.2.1 b' hb').1
      · have h5 := (hq.2.2.2.2.1 b' hb').2 k hk
        unfold zb_inS
        rw [if_neg (by omega), if_neg (by omega), if_neg (by omega), if_neg (by omega), if_neg (by omega)]
        exact h5
  · by_cases e : u = v
    · subst e
      rw [e373v, e385]
      omega
    · have hu' : u ∈ q := by
        rcases List.mem_append.mp hu with h | h
        · exact h
        · exact absurd (List.mem_singleton.mp h) e
      have h5 := hq.2.2.2.2.2.1 u hu'
      rw [e373 u (hq.2.1 u hu') e, e385]
      omega
  · refine List.pairwise_append.mpr ⟨hq.2.2.2.2.2.2.imp_of_mem (fun {x y} hx hy h => ?_), List.pairwise_singleton _ _, fun x hx y hy => ?_⟩
    · rw [e373 x (hq.2.1 x hx) (fun z => hno (z ▸ hx)), e373 y (hq.2.1 y hy) (fun z => hno (z ▸ hy))]
      exact h
    · rw [List.mem_singleton.mp hy, e373v, e373 x (hq.2.1 x hx) (fun z => hno (z ▸ hx))]
      have := hq.2.2.2.2.2.1 x hx
      omega
theorem zb_out_line {b i v : Nat} (hq : zr_line S q w) (hb : b < 3) (hi : (zb_L q w b)[i]? = some v) : zr_line (zb_outS S b i) (q.filter (fun x => decide (x ≠ v))) (zb_w w v 0) := by
  have hm := zb_L_mem.mp (List.mem_of_getElem? hi)
  have hv := hq.2.1 v hm.1
  have hl12 := zb_ln12 hq
  have hlb : (zb_L q w b).length ≤ 12 := Nat.le_trans zb_L_len hl12
  have hil := (List.getElem?_eq_some_iff.mp hi).1
  have hSb : S (331 + 13 * b) = (zb_L q w b).length := (hq.2.2.2.2.1 b hb).1
  have e373 : ∀ k, 373 ≤ k → k ≤ 385 → zb_outS S b i k = S k := fun k h1 h2 => by
    unfold zb_outS
    rw [if_neg (by omega), if_neg (by omega), if_neg (by omega)]
  refine ⟨List.Pairwise.filter _ hq.1, fun u hu => hq.2.1 u (List.mem_filter.mp hu).1, fun u hu => ?_, fun u hu => ?_, fun b' hb' => ?_, fun u hu => ?_, ?_⟩
  · rw [List.mem_filter, decide_eq_true_iff]
    by_cases e : u = v
    · subst e
      rw [zb_w_eq]
      exact ⟨fun z => absurd rfl z.2, fun z => absurd rfl z⟩
    · rw [zb_w_ne e, ← hq.2.2.1 u hu]
      exact ⟨fun z => z.1, fun z => ⟨z, e⟩⟩
  · by_cases e : u = v
    · subst e
      rw [zb_w_eq]
      exact Nat.zero_le _
    · rw [zb_w_ne e]
      exact hq.2.2.2.1 u hu
  · show zb_outS S b i (331 + 13 * b') = (zb_L (q.filter (fun x => decide (x ≠ v))) (zb_w w v 0) b').length ∧ ∀ k, k < (zb_L (q.filter (fun x => decide (x ≠ v))) (zb_w w v 0) b').length → (zb_L (q.filter (fun x => decide (x ≠ v))) (zb_w w v 0) b')[k]? = some (zb_outS S b i (332 + 13 * b' + k))
    by_cases e : b' = b
    · subst e
      rw [zb_out_L, zb_flt _ (zb_L_nodup hq.1) i v hi, List.length_eraseIdx_of_lt hil]
      refine ⟨?_, fun k hk => ?_⟩
      · unfold zb_outS
        rw [if_pos rfl, hSb]
      · rw [List.getElem?_eraseIdx]
        unfold zb_outS
        by_cases c : k < i
        · rw [if_pos c, if_neg (by omega), if_neg (by omega), if_neg (by omega)]
          exact (hq.2.2.2.2.1 b' hb).2 k (show k < (zb_L q w b').length by omega)
        · rw [if_neg c, if_neg (by omega), if_pos ⟨by omega, by omega⟩]
          exact (hq.2.2.2.2.1 b' hb).2 (k + 1) (show k + 1 < (zb_L q w b').length by omega)
    · rw [zb_out_other (by rw [hm.2]; omega)]
      have hl' : (zb_L q w b').length ≤ 12 := Nat.le_trans zb_L_len hl12
      refine ⟨?_, fun k hk => ?_⟩
      · unfold zb_outS
        rw [if_neg (by omega), if_neg (by omega), if_neg (by omega)]
        exact (hq.2.2.2.2.1 b' hb').1
      · have h5 := (hq.2.2.2.2.1 b' hb').2 k hk
        unfold zb_outS
        rw [if_neg (by omega), if_neg (by omega), if_neg (by omega)]
        exact h5
  · have hu' := (List.mem_filter.mp hu).1
    have h12 := hq.2.1 u hu'
    rw [e373 (373 + u) (by omega) (by omega), e373 385 (by decide) (by decide)]
    exact hq.2.2.2.2.2.1 u hu'
  · refine (List.Pairwise.filter _ hq.2.2.2.2.2.2).imp_of_mem (fun {x y} hx hy h => ?_)
    have h1 := hq.2.1 x (List.mem_filter.mp hx).1
    have h2 := hq.2.1 y (List.mem_filter.mp hy).1
    rw [e373 (373 + x) (by omega) (by omega), e373 (373 + y) (by omega) (by omega)]
    exact h
end zbMoves
section zcMoves
variable {c : rj_M} {S : Nat → Nat} {q : List Nat} {w : Nat → Nat}
theorem zc_enter {b v : Nat} (h : zb_c c S q w) (hq : zr_line S q w) (hb : b < 3) (hv : v < 12) (hw : w v = 0) : zb_c (mX0_enter c (nI b) (nI v)) (zb_inS S b v) (q ++ [v]) (zb_w w v (b + 1)) ∧ (∀ k, k ≠ 21 → k ≠ 22 → k ≠ 23 → k ≠ 24 → (mX0_enter c (nI b) (nI v)).1 k = c.1 k) ∧ (mX0_enter c (nI b) (nI v)).2 = c.2 := by
  have hlen := zb_in_len hq hv hw
  have hlb : (zb_L q w b).length < 12 := Nat.lt_of_le_of_lt zb_L_len hlen
  have hSb : S (331 + 13 * b) = (zb_L q w b).length := (hq.2.2.2.2.1 b hb).1
  have hbd : ∀ k, (zb_L q w b).head? = some k → k < 2 ^ 31 := fun k hk => by
    have h5 : k ∈ zb_L q w b := List.mem_of_mem_head? hk
    have := (zb_wv hq (zb_L_mem.mp h5).1).1
    omega
  -- the common part, from a memory t with the left minutes right
  have common : ∀ t : rj_M, t.1 21 = c.1 21 → t.1 22 = c.1 22 → t.1 23 = c.1 23 → (∀ k, k < 3 → t.1 24 k = nI (zb_inS S b v (370 + k))) → (∀ k, k ≠ 24 → t.1 k = c.1 k) → t.2 = c.2 → zb_c (mX11_replace (rj_pi (mX11_replace t 22 12 (t.1 21 1) (nI v)) 21 1 (if 12 < (((mX11_replace t 22 12 (t.1 21 1) (nI v)).1 21 1) + 1) then 12 else (((mX11_replace t 22 12 (t.1 21 1) (nI v)).1 21 1) + 1))) 23 12 (nI v) (nI b)) (zb_inS S b v) (q ++ [v]) (zb_w w v (b + 1)) ∧ (∀ k, k ≠ 21 → k ≠ 22 → k ≠ 23 → k ≠ 24 → (mX11_replace (rj_pi (mX11_replace t 22 12 (t.1 21 1) (nI v)) 21 1 (if 12 < (((mX11_replace t 22 12 (t.1 21 1) (nI v)).1 21 1) + 1) then 12 else (((mX11_replace t 22 12 (t.1 21 1) (nI v)).1 21 1) + 1))) 23 12 (nI v) (nI b)).1 k = c.1 k) ∧ (mX11_replace (rj_pi (mX11_replace t 22 12 (t.1 21 1) (nI v)) 21 1 (if 12 < (((mX11_replace t 22 12 (t.1 21 1) (nI v)).1 21 1) + 1) then 12 else (((mX11_replace t 22 12 (t.1 21 1) (nI v)).1 21 1) + 1))) 23 12 (nI v) (nI b)).2 = c.2 := fun t t1 t2 t3 t4 t5 t6 => by
    have hcnt : t.1 21 1 = nI q.length := by rw [t1]; exact h.1
    rw [hcnt, (zm_rep (μ := t) (k := 22) (n := 12) (v := nI v) (j := q.length) rfl hlen (by decide)).1, zm_pi_ne (show 21 ≠ 22 by decide), hcnt, nI_1, if_neg (show ¬ (12 : Int32) < nI (q.length + 1) from nI_nlt (a := 12) (by omega) (by decide)), (zm_rep (k := 23) (n := 12) (v := nI b) (j := v) rfl hv (by decide)).1]
    refine ⟨⟨?_, fun i hi => ?_, fun u hu => ?_, fun k hk => ?_, ?_, ?_⟩, fun k k1 k2 k3 k4 => ?_, t6⟩
    · rw [zm_pi_ne (by decide), zm_pi_eq, List.length_append, List.length_singleton]
    · rw [List.length_append, List.length_singleton] at hi
      rw [zm_pi_ne (by decide), zm_pi_ne (by decide)]
      by_cases e : i = q.length
      · subst e
        exact ⟨v, by rw [List.getElem?_append_right (Nat.le_refl _), Nat.sub_self]; rfl, zm_pi_eq⟩
      · obtain ⟨u, u1, u2⟩ := h.2.1 i (by omega)
        exact ⟨u, by rw [List.getElem?_append_left (by omega)]; exact u1, by rw [zm_pi_ne2 e, t2]; exact u2⟩
    · by_cases e : u = v
      · subst e
        rw [zm_pi_eq, zb_w_eq]
        exact (nI_pred b).symm
      · rw [zm_pi_ne2 e, zm_pi_ne (by decide), zm_pi_ne (by decide), zb_w_ne e, t3]
        exact h.2.2.1 u hu
    · rw [zm_pi_ne (by decide), zm_pi_ne (by decide), zm_pi_ne (by decide)]
      exact t4 k hk
    · rw [zm_pi_ne (by decide), zm_pi_ne2 (by decide), zm_pi_ne (by decide), t1, h.2.2.2.2.1]
      unfold zb_inS
      rw [if_neg (by omega), if_neg (by omega), if_neg (by omega), if_neg (by omega), if_neg (by omega)]
    · rw [zm_pi_ne (by decide), zm_pi_ne2 (by decide), zm_pi_ne (by decide), t1, h.2.2.2.2.2]
      unfold zb_inS
      rw [if_neg (by omega), if_neg (by omega), if_neg (by omega), if_neg (by omega), if_neg (by omega)]
    · rw [zm_pi_ne k3, zm_pi_ne k1, zm_pi_ne k2]
      exact t5 k k4
  unfold mX0_enter
  rw [zc_firstOf h hq hb]
  by_cases c1 : (zb_L q w b).head? = none
  · have hnil := List.head?_eq_none_iff.mp c1
    have hS0 : S (331 + 13 * b) = 0 := by rw [hSb, hnil]; rfl
    rw [if_pos ((zo_none hbd).mpr c1), (zm_rep (μ := c) (k := 24) (n := 3) (v := c.1 21 5) (j := b) rfl hb (by decide)).1]
    refine common _ (zm_pi_ne (by decide)) (zm_pi_ne (by decide)) (zm_pi_ne (by decide)) (fun k hk => ?_) (fun k hk => zm_pi_ne hk) rfl
    unfold zb_inS
    rw [if_neg (by omega), if_neg (by omega), if_neg (by omega), if_neg (by omega)]
    by_cases e : k = b
    · subst e
      rw [if_pos ⟨rfl, hS0⟩, zm_pi_eq]
      exact h.2.2.2.2.1
    · rw [if_neg (by omega), zm_pi_ne2 e]
      exact h.2.2.2.1 k hk
  · have hne : S (331 + 13 * b) ≠ 0 := fun z => c1 (by rw [List.eq_nil_of_length_eq_zero (hSb.symm.trans z)]; rfl)
    rw [if_neg (fun z => c1 ((zo_none hbd).mp z))]
    refine common c rfl rfl rfl (fun k hk => ?_) (fun _ _ => rfl) rfl
    unfold zb_inS
    rw [if_neg (by omega), if_neg (by omega), if_neg (by omega), if_neg (by omega), if_neg (fun z => hne z.2)]
    exact h.2.2.2.1 k hk
/-- the order closes up behind one who goes -/
theorem zc_close (h : zb_c c S q w) (hq : zr_line S q w) {v : Nat} (hv : v < 12) {a : rj_M} : ∀ (n j : Nat) (pre : List Nat) (mem : rj_M), j + n = 12 → pre.length ≤ j → pre ++ (q.drop j).filter (fun x => decide (x ≠ v)) = q.filter (fun x => decide (x ≠ v)) → (∀ i u, pre[i]? = some u → mem.1 22 i = nI u) → (∀ i, j ≤ i → mem.1 22 i = c.1 22 i) → mem.1 21 = c.1 21 → ((rj_br (bX0_takeOut_33 a (nI v)) n j (nI pre.length, mem)).2.1 = nI (q.filter (fun x => decide (x ≠ v))).length ∧ (∀ i u, (q.filter (fun x => decide (x ≠ v)))[i]? = some u → (rj_br (bX0_takeOut_33 a (nI v)) n j (nI pre.length, mem)).2.2.1 22 i = nI u) ∧ (∀ k, k ≠ 22 → (rj_br (bX0_takeOut_33 a (nI v)) n j (nI pre.length, mem)).2.2.1 k = mem.1 k) ∧ (rj_br (bX0_takeOut_33 a (nI v)) n j (nI pre.length, mem)).2.2.2 = mem.2)
  | 0, j, pre, mem, hj, hp, hpre, hm, hr, h21 => by
    have hl := zb_ln12 hq
    rw [List.drop_eq_nil_of_le (by omega), List.filter_nil, List.append_nil] at hpre
    rw [← hpre]
    exact ⟨rfl, hm, fun _ _ => rfl, rfl⟩
  | n + 1, j, pre, mem, hj, hp, hpre, hm, hr, h21 => by
    have hl := zb_ln12 hq
    have h21c : mem.1 21 1 = nI q.length := by rw [h21]; exact h.1
    by_cases c1 : q.length ≤ j
    · have e : bX0_takeOut_33 a (nI v) j (nI pre.length, mem) = .inr (j, (nI pre.length, mem)) := by
        unfold bX0_takeOut_33
        show (if mem.1 21 1 ≤ nI j then _ else _) = _
        rw [h21c]
        exact if_pos (nI_le c1 (by omega))
      rw [List.drop_eq_nil_of_le c1, List.filter_nil, List.append_nil] at hpre
      rw [rj_br_r e, ← hpre]
      exact ⟨rfl, hm, fun _ _ => rfl, rfl⟩
    · have hjl : j < q.length := by omega
      have hwj := zb_wv hq (List.getElem_mem hjl)
      have hd : q.drop j = q[j] :: q.drop (j + 1) := List.drop_eq_getElem_cons hjl
      have e0 : bX0_takeOut_33 a (nI v) j (nI pre.length, mem) = if q[j] = v then .inl (nI pre.length, mem) else .inl (nI (pre.length + 1), rj_pi mem 22 pre.length (nI q[j])) := by
        unfold bX0_takeOut_33
        show (if mem.1 21 1 ≤ nI j then _ else (if mem.1 22 (nI j).toNatClampNeg = nI v then Sum.inl (nI pre.length, mem) else .inl (nI pre.length + 1, mX11_replace mem 22 12 (nI pre.length) (mem.1 22 (nI j).toNatClampNeg)))) = _
        rw [h21c, if_neg (nI_ge hjl (by omega)), nI_clamp (n := j) (by omega), hr j (Nat.le_refl _), zc_ord h hjl, nI_1, (zm_rep (μ := mem) (k := 22) (n := 12) (v := nI q[j]) (j := pre.length) rfl (by omega) (by decide)).1]
        by_cases c2 : q[j] = v
        · rw [if_pos (by rw [c2]), if_pos c2]
        · rw [if_neg (fun z => c2 ((nI_eq (by omega) (by omega)).mp z)), if_neg c2]
      by_cases c2 : q[j] = v
      · rw [if_pos c2] at e0
        rw [hd, List.filter_cons_of_neg (by simpa using c2)] at hpre
        rw [rj_br_l e0]
        exact zc_close h hq hv n (j + 1) pre mem (by omega) (by omega) hpre hm (fun i hi => hr i (by omega)) h21
      · rw [if_neg c2] at e0
        rw [hd, List.filter_cons_of_pos (by simpa using c2)] at hpre
        have hz := zc_close h hq hv (a := a) n (j + 1) (pre ++ [q[j]]) (rj_pi mem 22 pre.length (nI q[j])) (by omega) (by rw [List.length_append, List.length_singleton]; omega) (by rw [List.append_assoc]; exact hpre) (fun i u hi => by
          by_cases e : i = pre.length
          · subst e
            rw [List.getElem?_append_right (Nat.le_refl _), Nat.sub_self] at hi
            rw [zm_pi_eq]
            exact congrArg nI (Option.some.inj hi)
          · have hil := (List.getElem?_eq_some_iff.mp hi).1
            rw [List.length_append, List.length_singleton] at hil
            rw [List.getElem?_append_left (by omega)] at hi
            rw [zm_pi_ne2 e]
            exact hm i u hi) (fun i hi => by rw [zm_pi_ne2 (by omega)]; exact hr i (by omega)) (by rw [zm_pi_ne (by decide)]; exact h21)
        rw [List.length_append, List.length_singleton] at hz
        rw [rj_br_l e0]
        exact ⟨hz.1, hz.2.1, fun k hk => (hz.2.2.1 k hk).trans (zm_pi_ne hk), hz.2.2.2⟩
theorem zc_takeOut {v i : Nat} (h : zb_c c S q w) (hq : zr_line S q w) (hv : v < 12) (hw : w v ≠ 0) (hi : (zb_L q w (w v - 1))[i]? = some v) : zb_c (mX0_takeOut c (nI v)) (zb_outS S (w v - 1) i) (q.filter (fun x => decide (x ≠ v))) (zb_w w v 0) ∧ (∀ k, k ≠ 21 → k ≠ 22 → k ≠ 23 → k ≠ 24 → (mX0_takeOut c (nI v)).1 k = c.1 k) ∧ (mX0_takeOut c (nI v)).2 = c.2 := by
  have hv3 := hq.2.2.2.1 v hv
  have hb : w v - 1 < 3 := by omega
  have hl := zb_ln12 hq
  have hlb : (zb_L q w (w v - 1)).length ≤ 12 := Nat.le_trans zb_L_len hl
  have hSb : S (331 + 13 * (w v - 1)) = (zb_L q w (w v - 1)).length := (hq.2.2.2.2.1 _ hb).1
  have common : ∀ t : rj_M, t.1 21 = c.1 21 → t.1 22 = c.1 22 → t.1 23 = c.1 23 → (∀ k, k < 3 → t.1 24 k = nI (zb_outS S (w v - 1) i (370 + k))) → (∀ k, k ≠ 24 → t.1 k = c.1 k) → t.2 = c.2 → zb_c (mX11_replace (rj_pi ((rj_br (bX0_takeOut_33 c (nI v)) 12 0 (0, t)).2.2) 21 1 ((rj_br (bX0_takeOut_33 c (nI v)) 12 0 (0, t)).2.1)) 23 12 (nI v) (-1)) (zb_outS S (w v - 1) i) (q.filter (fun x => decide (x ≠ v))) (zb_w w v 0) ∧ (∀ k, k ≠ 21 → k ≠ 22 → k ≠ 23 → k ≠ 24 → (mX11_replace (rj_pi ((rj_br (bX0_takeOut_33 c (nI v)) 12 0 (0, t)).2.2) 21 1 ((rj_br (bX0_takeOut_33 c (nI v)) 12 0 (0, t)).2.1)) 23 12 (nI v) (-1)).1 k = c.1 k) ∧ (mX11_replace (rj_pi ((rj_br (bX0_takeOut_33 c (nI v)) 12 0 (0, t)).2.2) 21 1 ((rj_br (bX0_takeOut_33 c (nI v)) 12 0 (0, t)).2.1)) 23 12 (nI v) (-1)).2 = c.2 := fun t t1 t2 t3 t4 t5 t6 => by
    have hz := zc_close h hq hv (a := c) 12 0 [] t rfl (Nat.le_refl _) (by rw [List.nil_append, List.drop_zero]) (fun i u hi => by cases hi) (fun i _ => congrFun t2 i) t1
    rw [show nI ([] : List Nat).length = (0 : Int32) from rfl] at hz
    obtain ⟨z1, z2, z3, z4⟩ := hz
    rw [z1]
    generalize (rj_br (bX0_takeOut_33 c (nI v)) 12 0 (0, t)).2.2 = u at z2 z3 z4 ⊢
    rw [(zm_rep (k := 23) (n := 12) (v := -1) (j := v) rfl hv (by decide)).1]
    refine ⟨⟨?_, fun i hi => ?_, fun x hx => ?_, fun k hk => ?_, ?_, ?_⟩, fun k k1 k2 k3 k4 => ?_, z4.trans t6⟩
    · rw [zm_pi_ne (by decide), zm_pi_eq]
    · rw [zm_pi_ne (by decide), zm_pi_ne (by decide)]
      exact ⟨_, List.getElem?_eq_getElem hi, z2 i _ (List.getElem?_eq_getElem hi)⟩
    · by_cases e : x = v
      · subst e
        rw [zm_pi_eq, zb_w_eq]
        rfl
      · rw [zm_pi_ne2 e, zm_pi_ne (by decide), zb_w_ne e, z3 23 (by decide), t3]
        exact h.2.2.1 x hx
    · rw [zm_pi_ne (by decide), zm_pi_ne (by decide), z3 24 (by decide)]
      exact t4 k hk
    · rw [zm_pi_ne (by decide), zm_pi_ne2 (by decide), z3 21 (by decide), t1, h.2.2.2.2.1]
      unfold zb_outS
      rw [if_neg (by omega), if_neg (by omega), if_neg (by omega)]
    · rw [zm_pi_ne (by decide), zm_pi_ne2 (by decide), z3 21 (by decide), t1, h.2.2.2.2.2]
      unfold zb_outS
      rw [if_neg (by omega), if_neg (by omega), if_neg (by omega)]
    · rw [zm_pi_ne k3, zm_pi_ne k1, z3 k k2]
      exact t5 k k4
  have hfst : (fX0_firstOf c (fX0_barOf c (nI v)) = nI v) ↔ i = 0 := by
    rw [zc_barOf h hv, zb_pred (by omega), zc_firstOf h hq hb, List.head?_eq_getElem?]
    have hil := (List.getElem?_eq_some_iff.mp hi).1
    have h0 : (zb_L q w (w v - 1))[0]? = some ((zb_L q w (w v - 1))[0]'(by omega)) := List.getElem?_eq_getElem (by omega)
    have hm0 := (zb_wv hq (zb_L_mem.mp (List.mem_of_getElem? h0)).1).1
    rw [h0]
    constructor
    · intro z
      have e := (nI_eq (by omega) (by omega)).mp z
      rw [e] at h0
      exact (List.getElem?_inj (by omega) (zb_L_nodup hq.1)).mp (hi.trans h0.symm)
    · intro z
      subst z
      rw [hi] at h0
      rw [← Option.some.inj h0]
      rfl
  unfold mX0_takeOut
  by_cases c1 : i = 0
  · rw [if_pos (hfst.mpr c1), zc_barOf h hv, zb_pred (by omega), (zm_rep (μ := c) (k := 24) (n := 3) (v := c.1 21 5) (j := w v - 1) rfl hb (by decide)).1]
    refine common _ (zm_pi_ne (by decide)) (zm_pi_ne (by decide)) (zm_pi_ne (by decide)) (fun k hk => ?_) (fun k hk => zm_pi_ne hk) rfl
    unfold zb_outS
    rw [if_neg (by omega), if_neg (by omega)]
    by_cases e : k = w v - 1
    · subst e
      rw [if_pos ⟨rfl, c1⟩, zm_pi_eq]
      exact h.2.2.2.2.1
    · rw [if_neg (by omega), zm_pi_ne2 e]
      exact h.2.2.2.1 k hk
  · rw [if_neg (fun z => c1 (hfst.mp z))]
    refine common c rfl rfl rfl (fun k hk => ?_) (fun _ _ => rfl) rfl
    unfold zb_outS
    rw [if_neg (by omega), if_neg (by omega), if_neg (fun z => c1 z.2)]
    exact h.2.2.2.1 k hk
end zcMoves
