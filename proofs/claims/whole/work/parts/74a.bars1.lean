/-! BARS: lists of visitors -/
/-- the line of the bar b -/
def zb_L (q : List Nat) (w : Nat → Nat) (b : Nat) : List Nat := q.filter (fun v => decide (w v = b + 1))
theorem zb_L_mem {q : List Nat} {w : Nat → Nat} {b v : Nat} : v ∈ zb_L q w b ↔ v ∈ q ∧ w v = b + 1 := by
  unfold zb_L
  rw [List.mem_filter, decide_eq_true_iff]
theorem zb_L_nodup {q : List Nat} {w : Nat → Nat} {b : Nat} (h : q.Nodup) : (zb_L q w b).Nodup := List.Pairwise.filter _ h
theorem zb_L_len {q : List Nat} {w : Nat → Nat} {b : Nat} : (zb_L q w b).length ≤ q.length := List.length_filter_le _ _
theorem zb_flt : ∀ (l : List Nat), l.Nodup → ∀ p v, l[p]? = some v → l.filter (fun x => decide (x ≠ v)) = l.eraseIdx p
  | [], _, p, v, h => by cases h
  | a :: t, hn, 0, v, h => by
    rw [List.getElem?_cons_zero] at h
    cases h
    rw [List.filter_cons_of_neg (by simp), List.eraseIdx_cons_zero, List.filter_eq_self.mpr]
    intro x hx
    have h2 := (List.nodup_cons.mp hn).1
    simp only [decide_eq_true_eq]
    exact fun e => h2 (e ▸ hx)
  | a :: t, hn, p + 1, v, h => by
    rw [List.getElem?_cons_succ] at h
    have h2 := (List.nodup_cons.mp hn).1
    have hne : a ≠ v := fun e => h2 (e ▸ List.mem_of_getElem? h)
    rw [List.filter_cons_of_pos (by simp [hne]), List.eraseIdx_cons_succ, zb_flt t (List.nodup_cons.mp hn).2 p v h]
/-- one leaves: the others' lines stay, the own line is one shorter -/
def zb_w (w : Nat → Nat) (v x : Nat) : Nat → Nat := fun u => if u = v then x else w u
theorem zb_w_eq {w : Nat → Nat} {v x : Nat} : zb_w w v x v = x := if_pos rfl
theorem zb_w_ne {w : Nat → Nat} {v x u : Nat} (h : u ≠ v) : zb_w w v x u = w u := if_neg h
theorem zb_out_L {q : List Nat} {w : Nat → Nat} {v b : Nat} : zb_L (q.filter (fun x => decide (x ≠ v))) (zb_w w v 0) b = (zb_L q w b).filter (fun x => decide (x ≠ v)) := by
  unfold zb_L
  rw [List.filter_filter, List.filter_filter]
  refine List.filter_congr (fun x _ => ?_)
  by_cases e : x = v
  · subst e
    simp
  · rw [zb_w_ne e, Bool.and_comm]
theorem zb_out_other {q : List Nat} {w : Nat → Nat} {v b : Nat} (h : w v ≠ b + 1) : zb_L (q.filter (fun x => decide (x ≠ v))) (zb_w w v 0) b = zb_L q w b := by
  rw [zb_out_L, List.filter_eq_self.mpr]
  intro x hx
  simp only [decide_eq_true_eq]
  exact fun e => h (e ▸ (zb_L_mem.mp hx).2)
theorem zb_in_L {q : List Nat} {w : Nat → Nat} {v a b : Nat} (hv : v ∉ q) : zb_L (q ++ [v]) (zb_w w v (a + 1)) b = if b = a then zb_L q w b ++ [v] else zb_L q w b := by
  have h1 : q.filter (fun u => decide (zb_w w v (a + 1) u = b + 1)) = q.filter (fun u => decide (w u = b + 1)) := List.filter_congr (fun x hx => by rw [zb_w_ne (show x ≠ v from fun e => hv (e ▸ hx))])
  unfold zb_L
  rw [List.filter_append, h1]
  by_cases e : b = a
  · subst e
    rw [if_pos rfl, List.filter_cons_of_pos (by rw [zb_w_eq]; simp), List.filter_nil]
  · rw [if_neg e, List.filter_cons_of_neg (by rw [zb_w_eq]; simp; omega), List.filter_nil, List.append_nil]
/-- counts and sums over the visitors, and over the list of those who are there -/
theorem zb_count : ∀ (n : Nat) (l : List Nat), l.Nodup → (∀ v, v ∈ l → v < n) → ∀ p : Nat → Bool, (∀ v, v < n → (p v = true ↔ v ∈ l)) → rj_fo (fun v s => if p v = true then s + 1 else s) n 0 0 = l.length
  | 0, l, _, h, _, _ => by
    cases l with
    | nil => rfl
    | cons a t => exact absurd (h a List.mem_cons_self) (Nat.not_lt_zero _)
  | n + 1, l, hn, h, p, hp => by
    rw [zf_last n 0, Nat.zero_add]
    by_cases hm : n ∈ l
    · have h1 := zb_count n (l.erase n) (hn.erase n) (fun v hv => by
        have h2 := (List.Nodup.mem_erase_iff hn).mp hv
        have h3 := h v h2.2
        have h4 := h2.1
        omega) p (fun v hv => by
        rw [hp v (by omega), List.Nodup.mem_erase_iff hn]
        exact ⟨fun z => ⟨by omega, z⟩, fun z => z.2⟩)
      rw [if_pos ((hp n (Nat.lt_succ_self n)).mpr hm), h1, List.length_erase_of_mem hm]
      have : 0 < l.length := List.length_pos_of_mem hm
      omega
    · have h1 := zb_count n l hn (fun v hv => by
        have h3 := h v hv
        have h4 : v ≠ n := fun e => hm (e ▸ hv)
        omega) p (fun v hv => hp v (by omega))
      rw [if_neg (fun z => hm ((hp n (Nat.lt_succ_self n)).mp z)), h1]
def zb_sum (g : Nat → Nat) : List Nat → Nat
  | [] => 0
  | v :: t => g v + zb_sum g t
theorem zb_sum_app {g : Nat → Nat} : ∀ (a b : List Nat), zb_sum g (a ++ b) = zb_sum g a + zb_sum g b
  | [], b => (Nat.zero_add _).symm
  | v :: t, b => by
    show g v + zb_sum g (t ++ b) = g v + zb_sum g t + zb_sum g b
    rw [zb_sum_app t b, Nat.add_assoc]
theorem zb_sum_erase {g : Nat → Nat} : ∀ (l : List Nat) (v : Nat), v ∈ l → zb_sum g l = g v + zb_sum g (l.erase v)
  | [], v, h => absurd h List.not_mem_nil
  | a :: t, v, h => by
    by_cases e : a = v
    · subst e
      rw [List.erase_cons_head]
      rfl
    · rw [List.erase_cons_tail (by simpa using e)]
      show g a + zb_sum g t = g v + (g a + zb_sum g (t.erase v))
      rcases List.mem_cons.mp h with h | h
      · exact absurd h.symm e
      · rw [zb_sum_erase t v h]
        omega
theorem zb_total {g : Nat → Nat} : ∀ (n : Nat) (l : List Nat), l.Nodup → (∀ v, v ∈ l → v < n) → ∀ p : Nat → Bool, (∀ v, v < n → (p v = true ↔ v ∈ l)) → rj_fo (fun v s => if p v = true then s + g v else s) n 0 0 = zb_sum g l
  | 0, l, _, h, _, _ => by
    cases l with
    | nil => rfl
    | cons a t => exact absurd (h a List.mem_cons_self) (Nat.not_lt_zero _)
  | n + 1, l, hn, h, p, hp => by
    rw [zf_last n 0, Nat.zero_add]
    by_cases hm : n ∈ l
    · have h1 := zb_total (g := g) n (l.erase n) (hn.erase n) (fun v hv => by
        have h2 := (List.Nodup.mem_erase_iff hn).mp hv
        have h3 := h v h2.2
        have h4 := h2.1
        omega) p (fun v hv => by
        rw [hp v (by omega), List.Nodup.mem_erase_iff hn]
        exact ⟨fun z => ⟨by omega, z⟩, fun z => z.2⟩)
      rw [if_pos ((hp n (Nat.lt_succ_self n)).mpr hm), h1, zb_sum_erase l n hm, Nat.add_comm]
    · have h1 := zb_total (g := g) n l hn (fun v hv => by
        have h3 := h v hv
        have h4 : v ≠ n := fun e => hm (e ▸ hv)
        omega) p (fun v hv => hp v (by omega))
      rw [if_neg (fun z => hm ((hp n (Nat.lt_succ_self n)).mp z)), h1]
/-- a list is its three lines -/
theorem zb_three {g w : Nat → Nat} : ∀ (q : List Nat), (∀ v, v ∈ q → 1 ≤ w v ∧ w v ≤ 3) → zb_sum g q = zb_sum g (zb_L q w 0) + zb_sum g (zb_L q w 1) + zb_sum g (zb_L q w 2)
  | [], _ => rfl
  | v :: t, h => by
    have hv := h v List.mem_cons_self
    have ih := zb_three (g := g) t (fun x hx => h x (List.mem_cons_of_mem _ hx))
    have hc : ∀ b, zb_sum g (zb_L (v :: t) w b) = (if w v = b + 1 then g v else 0) + zb_sum g (zb_L t w b) := fun b => by
      unfold zb_L
      by_cases e : w v = b + 1
      · rw [List.filter_cons_of_pos (by simpa using e), if_pos e]
        rfl
      · rw [List.filter_cons_of_neg (by simpa using e), if_neg e, Nat.zero_add]
    rw [hc, hc, hc]
    show g v + zb_sum g t = _
    rw [ih]
    have h3 : w v = 1 ∨ w v = 2 ∨ w v = 3 := by omega
    rcases h3 with h3 | h3 | h3 <;> rw [h3] <;> simp <;> omega
theorem zb_sum_idx {g f : Nat → Nat} : ∀ (l : List Nat) (o : Nat), (∀ i v, l[i]? = some v → g v = f (o + i)) → ∀ s, zb_sum g l + s = rj_fo (fun k s => s + f k) l.length o s
  | [], _, _, s => Nat.zero_add s
  | v :: t, o, h, s => by
    show g v + zb_sum g t + s = rj_fo (fun k s => s + f k) t.length (o + 1) (s + f o)
    have h0 := h 0 v rfl
    rw [Nat.add_zero] at h0
    rw [← zb_sum_idx (g := g) t (o + 1) (fun i x hx => by
      have := h (i + 1) x (by rw [List.getElem?_cons_succ]; exact hx)
      rw [this]
      exact congrArg f (by omega)) (s + f o), h0]
    omega
