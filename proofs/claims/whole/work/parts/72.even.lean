/-! EVENINGS: a row of acts, found step by step -/
/-- the least number under n for which p holds -/
noncomputable def zf_find (p : Nat → Prop) (n : Nat) : Option Nat := (List.range n).find? (fun i => zz (p i))
theorem zf_find_some {p : Nat → Prop} {n k : Nat} : zf_find p n = some k ↔ k < n ∧ p k ∧ ∀ j, j < k → ¬ p j := by
  unfold zf_find
  rw [List.find?_range_eq_some]
  constructor
  · rintro ⟨h1, h2, h3⟩
    refine ⟨List.mem_range.mp h2, zz_t.mp h1, fun j hj hp => ?_⟩
    have h4 := h3 j hj
    rw [zz_t.mpr hp] at h4
    cases h4
  · rintro ⟨h1, h2, h3⟩
    refine ⟨zz_t.mpr h2, List.mem_range.mpr h1, fun j hj => ?_⟩
    rw [zz_f.mpr (h3 j hj)]
    rfl
theorem zf_find_none {p : Nat → Prop} {n : Nat} : zf_find p n = none ↔ ∀ j, j < n → ¬ p j := by
  unfold zf_find
  rw [List.find?_eq_none]
  constructor
  · intro h j hj hp
    exact h j (List.mem_range.mpr hj) (zz_t.mpr hp)
  · intro h j hj hp
    exact h j (List.mem_range.mp hj) (zz_t.mp hp)
theorem zf_find_congr {p q : Nat → Prop} {n : Nat} (h : ∀ i, i < n → (p i ↔ q i)) : zf_find p n = zf_find q n := by
  cases e : zf_find q n with
  | none => exact zf_find_none.mpr (fun j hj hp => zf_find_none.mp e j hj ((h j hj).mp hp))
  | some k =>
    obtain ⟨h1, h2, h3⟩ := zf_find_some.mp e
    exact zf_find_some.mpr ⟨h1, (h k h1).mpr h2, fun j hj hp => h3 j hj ((h j (by omega)).mp hp)⟩
/-- none is -1 -/
def zo_i : Option Nat → Int32
  | none => -1
  | some k => nI k
theorem zo_none {o : Option Nat} (h : ∀ k, o = some k → k < 2 ^ 31) : zo_i o = -1 ↔ o = none := by
  cases o with
  | none => exact ⟨fun _ => rfl, fun _ => rfl⟩
  | some k =>
    refine ⟨fun z => ?_, fun z => by cases z⟩
    have h1 : ¬ nI k < 0 := nI_pos (h k rfl)
    have h2 : nI k = -1 := z
    rw [h2] at h1
    exact absurd (by decide) h1
/-- a search of a picture -/
theorem zx_search {f : Nat → Unit → Unit ⊕ Int32} {p : Nat → Prop} {n : Nat} (h : ∀ i, i < n → (p i ∧ f i () = .inr (nI i)) ∨ (¬ p i ∧ f i () = .inl ())) : Sum.elim (fun _ => (-1 : Int32)) (fun w => w) (rj_ix f n 0 ()) = zo_i (zf_find p n) := by
  rcases zx_find p (fun i => nI i) n 0 (fun i _ hi => h i (by omega)) with ⟨i, h1, h2, h3, h4, h5⟩ | ⟨h1, h2⟩
  · rw [h5, zf_find_some.mpr ⟨by omega, h3, fun j hj => h4 j (Nat.zero_le _) hj⟩]
    rfl
  · rw [h2, zf_find_none.mpr (fun j hj => h1 j (Nat.zero_le _) (by omega))]
    rfl
/-- a row from an act on, by the next ones -/
def ze_run (nx : Nat → Option Nat) : Nat → Option Nat → List Nat
  | 0, _ => []
  | _ + 1, none => []
  | n + 1, some k => k :: ze_run nx n (nx k)
theorem ze_run_n {nx : Nat → Option Nat} : ∀ n, ze_run nx n none = []
  | 0 => rfl
  | _ + 1 => rfl
theorem ze_run_s {nx : Nat → Option Nat} {n k : Nat} : ze_run nx (n + 1) (some k) = k :: ze_run nx n (nx k) := rfl
theorem ze_run_len {nx : Nat → Option Nat} : ∀ n o, (ze_run nx n o).length ≤ n
  | 0, _ => Nat.le_refl _
  | _ + 1, none => Nat.zero_le _
  | n + 1, some k => by
    rw [ze_run_s, List.length_cons]
    have := ze_run_len (nx := nx) n (nx k)
    omega
/-- by a measure that falls, a row is whole -/
theorem ze_run_all {nx : Nat → Option Nat} {m : Nat → Nat} {V : Nat → Prop} (hm : ∀ k x, V k → nx k = some x → m x < m k ∧ V x) : ∀ n N o, (∀ k, o = some k → m k < n ∧ V k) → n ≤ N → ze_run nx N o = ze_run nx n o
  | 0, N, none, _, _ => by rw [ze_run_n, ze_run_n]
  | 0, _, some k, h, _ => absurd (h k rfl).1 (Nat.not_lt_zero _)
  | n + 1, N, none, _, _ => by rw [ze_run_n, ze_run_n]
  | n + 1, N, some k, h, hN => by
    obtain ⟨N', rfl⟩ : ∃ N', N = N' + 1 := ⟨N - 1, by omega⟩
    rw [ze_run_s, ze_run_s, ze_run_all hm n N' (nx k) (fun x hx => by have := hm k x (h k rfl).2 hx; have := (h k rfl).1; exact ⟨by omega, (hm k x (h k rfl).2 hx).2⟩) (by omega)]
def ze_sum (W : Nat → Nat) : List Nat → Nat
  | [] => 0
  | k :: r => W k + ze_sum W r
def ze_max (Q : Nat → Nat) : Nat := rj_fo (fun k s => if s < Q k then Q k else s) 16 0 0
theorem ze_max_f {Q : Nat → Nat} : (∀ k, k < 16 → Q k ≤ ze_max Q) ∧ (ze_max Q = 0 ∨ ∃ k, k < 16 ∧ Q k = ze_max Q) := by
  have h := zf_inv (f := fun k s => if s < Q k then Q k else s) (fun n s => (∀ k, k < n → Q k ≤ s) ∧ (s = 0 ∨ ∃ k, k < 16 ∧ Q k = s)) 16 0 0 ⟨fun k hk => absurd hk (Nat.not_lt_zero _), .inl rfl⟩ (fun n s _ hn hs => by
    by_cases c : s < Q n
    · rw [if_pos c]
      refine ⟨fun k hk => ?_, .inr ⟨n, by omega, rfl⟩⟩
      by_cases e : k = n
      · rw [e]
        exact Nat.le_refl _
      · have := hs.1 k (by omega)
        omega
    · rw [if_neg c]
      refine ⟨fun k hk => ?_, hs.2⟩
      by_cases e : k = n
      · rw [e]
        omega
      · exact hs.1 k (by omega))
  exact h
section zeRow
variable {S P : Nat → Nat} {v d : Nat}
noncomputable def ze_f (S P : Nat → Nat) (d : Nat) : Option Nat := zf_find (fun k => 0 < ze_max (ze_Q S P d) ∧ ze_Q S P d k = ze_max (ze_Q S P d)) 16
noncomputable def ze_n (S P : Nat → Nat) (v k : Nat) : Option Nat := zf_find (fun x => 0 < P k - ze_W S v k ∧ P x = P k - ze_W S v k ∧ ze_rc S x k) 16
noncomputable def ze_row (S P : Nat → Nat) (v d : Nat) : List Nat := ze_run (ze_n S P v) 16 (ze_f S P d)
def ze_m (S : Nat → Nat) (k : Nat) : Nat := zc_n (fun y => decide (ze_B S k < ze_B S y)) 16
/-- who may stand in an evening of the day -/
def ze_V (S P : Nat → Nat) (v d k : Nat) : Prop := k < 16 ∧ zp_has S k ∧ ze_day S k = d ∧ 0 < ze_W S v k ∧ ze_W S v k ≤ P k
theorem ze_Vq (hE : ∀ k, k < 16 → zv_E (ze_W S v) (ze_rc S) P k) {k : Nat} (hk : k < 16) (hq : 0 < ze_Q S P d k) : ze_V S P v d k := by
  obtain ⟨h1, h2, h3⟩ := ze_Q_pos hq
  rcases hE k hk with ⟨e1, e2⟩ | ⟨e1, D, e2, -⟩
  · omega
  · exact ⟨hk, h1, h2, e1, by omega⟩
theorem ze_f_V (hE : ∀ k, k < 16 → zv_E (ze_W S v) (ze_rc S) P k) {k : Nat} (h : ze_f S P d = some k) : ze_V S P v d k ∧ P k = ze_max (ze_Q S P d) ∧ 0 < ze_max (ze_Q S P d) := by
  obtain ⟨h1, ⟨h2, h3⟩, -⟩ := zf_find_some.mp h
  have hq : 0 < ze_Q S P d k := by omega
  have h4 := ze_Q_pos hq
  exact ⟨ze_Vq hE h1 hq, by omega, h2⟩
theorem ze_n_V (ok : zo_prog S) (hE : ∀ k, k < 16 → zv_E (ze_W S v) (ze_rc S) P k) {k x : Nat} (hk : ze_V S P v d k) (h : ze_n S P v k = some x) : ze_V S P v d x ∧ P x = P k - ze_W S v k ∧ ze_rc S x k ∧ ze_m S x < ze_m S k := by
  obtain ⟨h1, ⟨h2, h3, h4⟩, -⟩ := zf_find_some.mp h
  have hd : ze_day S x = d := h4.2.2.1.trans hk.2.2.1
  have hq : ze_Q S P d x = P x := ze_Q_of h4.1 hd
  exact ⟨ze_Vq hE h1 (by omega), h3, h4, ze_cntr ok h1 hk.1 h4⟩
/-- there is a next one, as long as something is left -/
theorem ze_n_some (hE : ∀ k, k < 16 → zv_E (ze_W S v) (ze_rc S) P k) {k : Nat} (hk : ze_V S P v d k) (h : 0 < P k - ze_W S v k) : ∃ x, ze_n S P v k = some x := by
  cases e : ze_n S P v k with
  | some x => exact ⟨x, rfl⟩
  | none =>
    have hn := zf_find_none.mp e
    rcases hE k hk.1 with ⟨e1, e2⟩ | ⟨e1, D, e2, e3, e4⟩
    · omega
    · rcases e4 with e4 | ⟨x, x1, x2, x3⟩
      · omega
      · exact absurd ⟨h, by omega, x2⟩ (hn x x1)
theorem ze_n_none {k : Nat} (h : P k - ze_W S v k = 0) : ze_n S P v k = none := zf_find_none.mpr (fun j _ hp => by omega)
theorem ze_f_some (hm : 0 < ze_max (ze_Q S P d)) : ∃ x, ze_f S P d = some x := by
  cases e : ze_f S P d with
  | some x => exact ⟨x, rfl⟩
  | none =>
    have hn := zf_find_none.mp e
    rcases (ze_max_f (Q := ze_Q S P d)).2 with h | ⟨k, h1, h2⟩
    · omega
    · exact absurd ⟨hm, h2⟩ (hn k h1)
theorem ze_f_none (hm : ze_max (ze_Q S P d) = 0) : ze_f S P d = none := zf_find_none.mpr (fun j _ hp => by omega)
theorem ze_m16 {k : Nat} (hk : k < 16) : ze_m S k < 16 := zv_cnt hk
/-- all of a row may stand there -/
theorem ze_run_V (ok : zo_prog S) (hE : ∀ k, k < 16 → zv_E (ze_W S v) (ze_rc S) P k) : ∀ (n : Nat) (o : Option Nat), (∀ k, o = some k → ze_V S P v d k) → ∀ k, k ∈ ze_run (ze_n S P v) n o → ze_V S P v d k
  | 0, _, _, k, hk => absurd hk List.not_mem_nil
  | _ + 1, none, _, k, hk => absurd hk List.not_mem_nil
  | n + 1, some x, h, k, hk => by
    rw [ze_run_s] at hk
    rcases List.mem_cons.mp hk with rfl | hk
    · exact h k rfl
    · exact ze_run_V ok hE n (ze_n S P v x) (fun y hy => (ze_n_V ok hE (h x rfl) hy).1) k hk
theorem ze_run_sum (ok : zo_prog S) (hE : ∀ k, k < 16 → zv_E (ze_W S v) (ze_rc S) P k) : ∀ (n k : Nat), ze_V S P v d k → ze_m S k < n → ze_sum (ze_W S v) (ze_run (ze_n S P v) n (some k)) = P k
  | 0, _, _, h => absurd h (Nat.not_lt_zero _)
  | n + 1, k, hk, hm => by
    rw [ze_run_s]
    show ze_W S v k + ze_sum (ze_W S v) (ze_run (ze_n S P v) n (ze_n S P v k)) = P k
    have hW := hk.2.2.2.2
    by_cases h0 : P k - ze_W S v k = 0
    · rw [ze_n_none h0, ze_run_n]
      show ze_W S v k + 0 = P k
      omega
    · obtain ⟨x, hx⟩ := ze_n_some hE hk (by omega)
      obtain ⟨x1, x2, x3, x4⟩ := ze_n_V ok hE hk hx
      rw [hx, ze_run_sum ok hE n x x1 (by omega), x2]
      omega
theorem ze_row_sum (ok : zo_prog S) (hE : ∀ k, k < 16 → zv_E (ze_W S v) (ze_rc S) P k) : ze_sum (ze_W S v) (ze_row S P v d) = ze_max (ze_Q S P d) := by
  unfold ze_row
  by_cases h0 : ze_max (ze_Q S P d) = 0
  · rw [ze_f_none h0, ze_run_n, h0]
    rfl
  · obtain ⟨x, hx⟩ := ze_f_some (S := S) (P := P) (d := d) (by omega)
    obtain ⟨x1, x2, -⟩ := ze_f_V hE hx
    rw [hx, ze_run_sum ok hE 16 x x1 (ze_m16 x1.1), x2]
end zeRow
/-! EVENINGS, the class's side: m the memory behind planFor -/
section zcEven
variable {m : rj_M} {S P : Nat → Nat} {v d : Nat}
/-- what stands behind planFor(v) -/
def zc_pl1 (m : rj_M) (S P : Nat → Nat) (v : Nat) : Prop := zr_prog m 1 S ∧ zr_grnd m 1 S ∧ m.1 45 3 = nI v ∧ (∀ k, k < 16 → m.1 46 k = nI (P k)) ∧ (∀ k, k < 16 → zv_E (ze_W S v) (ze_rc S) P k) ∧ ∀ k, k < 16 → P k + 9 * ze_B S k ≤ 51840
theorem zc_Pb (h : zc_pl1 m S P v) {k : Nat} (hk : k < 16) : P k ≤ 51840 := by
  have := h.2.2.2.2.2 k hk
  omega
theorem zc_wv (h : zc_pl1 m S P v) (ok : zo_prog S) (hv : v < 12) {k : Nat} (hk : k < 16) : fX7_wishOf m (m.1 45 3) (nI k) = nI (ze_W S v k) := by
  rw [h.2.2.1, zc_wish h.1 ok hv hk]
  unfold ze_W
  rw [if_pos hk]
theorem zc_day (h : zr_prog m 1 S) (ok : zo_prog S) (hd : d < 4) {k : Nat} (hk : k < 16) : (fX7_dayOf m (nI k) = nI d) ↔ (zp_has S k ∧ ze_day S k = d) := by
  rw [zc_dayOf h ok hk]
  have hb := (ok.1 k hk).2.2.1
  by_cases e : S (23 + 6 * k) = 1
  · rw [if_pos e, nI_eq (by omega) (by omega)]
    exact ⟨fun z => ⟨e, z⟩, fun z => z.2⟩
  · rw [if_neg e]
    refine ⟨fun z => ?_, fun z => absurd z.1 e⟩
    have h1 : ¬ nI d < 0 := nI_pos (by omega)
    rw [← z] at h1
    exact absurd (by decide) h1
theorem ze_Qb (h : zc_pl1 m S P v) (d : Nat) {k : Nat} (hk : k < 16) : ze_Q S P d k ≤ 51840 := by
  have := zc_Pb h hk
  unfold ze_Q
  split <;> omega
theorem ze_maxb {Q : Nat → Nat} {M : Nat} (h : ∀ k, k < 16 → Q k ≤ M) : ze_max Q ≤ M := by
  rcases (ze_max_f (Q := Q)).2 with e | ⟨k, h1, h2⟩
  · omega
  · have := h k h1
    omega
theorem zc_great (h : zc_pl1 m S P v) (ok : zo_prog S) (hd : d < 4) : fX2_greatestPrice m (nI d) = nI (ze_max (ze_Q S P d)) := by
  unfold fX2_greatestPrice ze_max
  have hz := zf_rel (f := bX2_greatestPrice_4 m (nI d)) (g := fun k s => if s < ze_Q S P d k then ze_Q S P d k else s) (fun _ x y => x = nI y ∧ y ≤ 51840) 16 0 (0 : Int32) (0 : Nat) ⟨rfl, by decide⟩ (fun j x y _ hj hx => by
    obtain ⟨rfl, hy⟩ := hx
    have hq := ze_Qb h d (k := j) (by omega)
    unfold bX2_greatestPrice_4
    rw [nI_clamp (n := j) (by omega), h.2.2.2.1 j (by omega)]
    by_cases c : zp_has S j ∧ ze_day S j = d
    · rw [if_pos ((zc_day h.1 ok hd (k := j) (by omega)).mpr c)]
      have e := ze_Q_of (P := P) c.1 c.2
      rw [e] at hq ⊢
      by_cases c2 : y < P j
      · rw [if_pos (nI_lt c2 (by omega)), if_pos c2]
        exact ⟨rfl, hq⟩
      · rw [if_neg (nI_nlt (by omega) (by omega)), if_neg c2]
        exact ⟨rfl, hy⟩
    · rw [if_neg (fun z => c ((zc_day h.1 ok hd (k := j) (by omega)).mp z))]
      have e : ze_Q S P d j = 0 := by
        rcases Nat.eq_zero_or_pos (ze_Q S P d j) with z | z
        · exact z
        · exact absurd ⟨(ze_Q_pos z).1, (ze_Q_pos z).2.1⟩ c
      rw [e, if_neg (Nat.not_lt_zero _)]
      exact ⟨rfl, hy⟩)
  exact hz.1
theorem zc_firstOn (h : zc_pl1 m S P v) (ok : zo_prog S) (hd : d < 4) : fX2_firstOn m (nI d) = zo_i (ze_f S P d) := by
  have hM : ze_max (ze_Q S P d) ≤ 51840 := ze_maxb (Q := ze_Q S P d) (M := 51840) (fun k hk => ze_Qb h d hk)
  unfold fX2_firstOn ze_f
  refine zx_search (fun j hj => ?_)
  have hP := zc_Pb h hj
  unfold bX2_firstOn_8
  rw [zc_great h ok hd, nI_clamp (n := j) (by omega), h.2.2.2.1 j hj]
  by_cases c0 : 0 < ze_max (ze_Q S P d)
  · rw [if_neg (nI_nle c0 (by omega))]
    by_cases c : zp_has S j ∧ ze_day S j = d
    · have e := ze_Q_of (P := P) c.1 c.2
      rw [e]
      by_cases c1 : P j = ze_max (ze_Q S P d)
      · rw [if_pos (by rw [c1]), if_pos ((zc_day h.1 ok hd hj).mpr c)]
        exact .inl ⟨⟨c0, c1⟩, rfl⟩
      · rw [if_neg (fun z => c1 ((nI_eq (by omega) (by omega)).mp z))]
        exact .inr ⟨fun z => c1 z.2, rfl⟩
    · have e : ze_Q S P d j = 0 := by
        rcases Nat.eq_zero_or_pos (ze_Q S P d j) with z | z
        · exact z
        · exact absurd ⟨(ze_Q_pos z).1, (ze_Q_pos z).2.1⟩ c
      rw [if_neg (fun z => c ((zc_day h.1 ok hd hj).mp z)), e]
      refine .inr ⟨fun z => by omega, ?_⟩
      split <;> rfl
  · have e0 : ze_max (ze_Q S P d) = 0 := by omega
    rw [if_pos (show nI (ze_max (ze_Q S P d)) ≤ 0 by rw [e0]; decide)]
    exact .inr ⟨fun z => c0 z.1, rfl⟩
theorem zc_nextBehind (h : zc_pl1 m S P v) (ok : zo_prog S) (og : zo_grnd S) (hv : v < 12) {k : Nat} (hk : ze_V S P v d k) : fX2_nextBehind m (nI k) = zo_i (ze_n S P v k) := by
  have hk16 := hk.1
  have hPk := zc_Pb h hk16
  have hW := hk.2.2.2.2
  unfold fX2_nextBehind ze_n
  refine zx_search (fun j hj => ?_)
  have hPj := zc_Pb h hj
  have hp : fX2_priceOf m (nI k) = nI (P k) := by
    unfold fX2_priceOf
    rw [if_neg (nI_pos (by omega)), if_pos (show nI k < 16 from nI_lt (b := 16) hk16 (by decide)), nI_clamp (n := k) (by omega)]
    exact h.2.2.2.1 k hk16
  unfold bX2_nextBehind_21
  rw [hp, zc_wv h ok hv hk16, pk_sub hW, nI_clamp (n := j) (by omega), h.2.2.2.1 j hj]
  by_cases c0 : 0 < P k - ze_W S v k
  · rw [if_neg (nI_nle c0 (by omega))]
    by_cases c1 : P j = P k - ze_W S v k
    · rw [if_pos (by rw [c1])]
      rcases zc_reached h.1 h.2.1 ok og hj hk16 hk.2.1 with ⟨e1, e2⟩ | ⟨e1, e2⟩
      · rw [e2, if_neg (by decide)]
        exact .inl ⟨⟨c0, c1, e1⟩, rfl⟩
      · rw [e2, if_pos rfl]
        exact .inr ⟨fun z => e1 z.2.2, rfl⟩
    · rw [if_neg (fun z => c1 ((nI_eq (by omega) (by omega)).mp z))]
      exact .inr ⟨fun z => c1 z.2.1, rfl⟩
  · rw [if_pos (show nI (P k - ze_W S v k) ≤ 0 by rw [show P k - ze_W S v k = 0 by omega]; decide)]
    exact .inr ⟨fun z => c0 z.1, rfl⟩
theorem zo_not {k : Nat} (h : k < 2 ^ 31) : ¬ zo_i (some k) = -1 := fun z => by
  have := (zo_none (o := some k) (fun x hx => by cases hx; exact h)).mp z
  cases this
theorem zc_wloop (h : zc_pl1 m S P v) (ok : zo_prog S) (og : zo_grnd S) (hv : v < 12) {a0 : Int32} : ∀ (n j : Nat) (o : Option Nat) (s : Nat), (∀ k, o = some k → ze_V S P v d k) → (rj_br (bX2_weightOn_11 m a0) n j (nI s, zo_i o)).2.1 = nI (s + ze_sum (ze_W S v) (ze_run (ze_n S P v) n o))
  | 0, _, _, _, _ => rfl
  | n + 1, j, none, s, _ => by
    have e : bX2_weightOn_11 m a0 j (nI s, zo_i none) = .inr (j, (nI s, zo_i none)) := by
      unfold bX2_weightOn_11
      exact if_pos rfl
    rw [rj_br_r e, ze_run_n]
    rfl
  | n + 1, j, some k, s, ho => by
    have hk := ho k rfl
    have e : bX2_weightOn_11 m a0 j (nI s, zo_i (some k)) = .inl (nI (s + ze_W S v k), zo_i (ze_n S P v k)) := by
      unfold bX2_weightOn_11
      have h1 : ¬ (nI s, zo_i (some k)).2 = -1 := zo_not (by have := hk.1; omega)
      rw [if_neg h1]
      show Sum.inl ((nI s + fX7_wishOf m (m.1 45 3) (nI k)), (fX2_nextBehind m (nI k))) = _
      rw [zc_wv h ok hv hk.1, nI_add, zc_nextBehind h ok og hv hk]
    rw [rj_br_l e, zc_wloop h ok og hv n (j + 1) (ze_n S P v k) (s + ze_W S v k) (fun x hx => by
      have hE := h.2.2.2.2.1
      exact (ze_n_V ok hE hk hx).1), ze_run_s]
    show nI (s + ze_W S v k + _) = nI (s + (ze_W S v k + _))
    rw [Nat.add_assoc]
theorem zc_weightOn (h : zc_pl1 m S P v) (ok : zo_prog S) (og : zo_grnd S) (hv : v < 12) (hd : d < 4) : fX2_weightOn m (nI d) = nI (ze_max (ze_Q S P d)) := by
  have hE := h.2.2.2.2.1
  unfold fX2_weightOn
  rw [zc_firstOn h ok hd, show ((0 : Int32), zo_i (ze_f S P d)) = (nI 0, zo_i (ze_f S P d)) from rfl, zc_wloop h ok og hv (d := d) 16 0 (ze_f S P d) 0 (fun k hk => (ze_f_V hE hk).1), Nat.zero_add]
  exact congrArg nI (ze_row_sum ok hE)
theorem zc_aloop (h : zc_pl1 m S P v) (ok : zo_prog S) (og : zo_grnd S) (hv : v < 12) {a0 a1 : Int32} : ∀ (n j N : Nat) (o : Option Nat), n < N → (∀ k, o = some k → ze_V S P v d k) → (rj_br (bX2_actOn_21 m a0 a1) n j (zo_i o)).2 = zo_i ((ze_run (ze_n S P v) N o)[n]?)
  | _, _, 0, _, h, _ => absurd h (Nat.not_lt_zero _)
  | 0, _, N + 1, none, _, _ => rfl
  | 0, _, N + 1, some k, _, _ => rfl
  | n + 1, j, N + 1, none, _, _ => by
    have e : bX2_actOn_21 m a0 a1 j (zo_i none) = .inr (j, zo_i none) := by
      unfold bX2_actOn_21
      exact if_pos rfl
    rw [rj_br_r e]
    rfl
  | n + 1, j, N + 1, some k, hn, ho => by
    have hk := ho k rfl
    have e : bX2_actOn_21 m a0 a1 j (zo_i (some k)) = .inl (zo_i (ze_n S P v k)) := by
      unfold bX2_actOn_21
      rw [if_neg (zo_not (by have := hk.1; omega))]
      exact congrArg Sum.inl (zc_nextBehind h ok og hv hk)
    rw [rj_br_l e, zc_aloop h ok og hv n (j + 1) N (ze_n S P v k) (by omega) (fun x hx => by
      have hE := h.2.2.2.2.1
      exact (ze_n_V ok hE hk hx).1), ze_run_s, List.getElem?_cons_succ]
theorem zc_actOn (h : zc_pl1 m S P v) (ok : zo_prog S) (og : zo_grnd S) (hv : v < 12) (hd : d < 4) (a1 : Int32) : fX2_actOn m (nI d) a1 = if a1 < 0 then -1 else zo_i ((ze_row S P v d)[a1.toNatClampNeg]?) := by
  have hE := h.2.2.2.2.1
  unfold fX2_actOn
  rcases pk_ix a1 (n := 16) (by decide) with c | c | ⟨j, hj, rfl⟩
  · rw [if_pos c, if_pos c]
  · by_cases c0 : a1 < 0
    · rw [if_pos c0, if_pos c0]
    · obtain ⟨j, hj, rfl⟩ := nI_of c0
      have hj16 : 16 ≤ j := by
        have := (nI_leI (a := 16) (b := j) (by decide) hj).mp c
        exact this
      rw [if_neg c0, if_neg c0, if_neg (show ¬ nI j < 16 from nI_nlt (b := 16) hj16 hj), nI_clamp hj]
      have hl := ze_run_len (nx := ze_n S P v) 16 (ze_f S P d)
      rw [List.getElem?_eq_none (by unfold ze_row; omega)]
      rfl
  · rw [if_neg (nI_pos (by omega)), if_neg (nI_pos (by omega)), if_pos (show nI j < 16 from nI_lt (b := 16) hj (by decide)), zc_firstOn h ok hd, nI_clamp (n := j) (by omega), zn_toN (by omega)]
    exact zc_aloop h ok og hv j 0 16 (ze_f S P d) hj (fun k hk => (ze_f_V hE hk).1)
end zcEven
/-! EVENINGS, the reference's side -/
theorem zw_first {f : Int32 → Int32 ⊕ Int32} {q : Int32 → Prop} {p : Nat → Prop} {k : Nat} (hp : p k) (hl : ∀ j, j < k → ¬ p j) (hf : ∀ j, j ≤ k → (p j ∧ f (nI j) = .inr (nI j)) ∨ (¬ p j ∧ f (nI j) = .inl (nI j + 1))) (hq : ∀ j, j ≤ k → q (nI j)) : ∀ (n i : Nat), i ≤ k → k - i < n → rj_we f n (nI i) = nI k ∧ rq_we q f n (nI i)
  | 0, _, _, h => absurd h (Nat.not_lt_zero _)
  | n + 1, i, hi, hn => by
    rcases hf i hi with ⟨h1, h2⟩ | ⟨h1, h2⟩
    · have e : i = k := by
        rcases Nat.lt_or_ge i k with h | h
        · exact absurd h1 (hl i h)
        · omega
      subst e
      refine ⟨rj_we_r h2, hq i hi, ?_⟩
      rw [h2]
      trivial
    · have hne : i ≠ k := fun z => h1 (z ▸ hp)
      obtain ⟨a1, a2⟩ := zw_first hp hl hf hq n (i + 1) (by omega) (by omega)
      rw [← nI_1] at a1 a2
      refine ⟨(rj_we_l h2).trans a1, hq i hi, ?_⟩
      rw [h2]
      exact a2
section zqEven
variable {r : rj_M} {S P : Nat → Nat} {B : Nat → Int} {v d : Nat}
theorem zq_eloop (ok : zo_prog S) (og : zo_grnd S) (hv : v < 12) (hE : ∀ k, k < 16 → zv_E (ze_W S v) (ze_rc S) P k) (hPb : ∀ k, k < 16 → P k ≤ 51840) {a1 : Int32} : ∀ (n t left : Nat) (o : Option Nat) (mem : rj_M) (prev : Nat), t + n ≤ 16 → zr_row (mem.1 396) S B → (∀ k, k < 16 → mem.1 406 k = nI (ze_Q S P d k)) → mem.1 395 8 = nI t → (t = 0 → o = ze_f S P d) → (0 < t → ze_V S P v d prev ∧ mem.1 407 (t - 1) = nI prev ∧ o = ze_n S P v prev) → (o = none → left = 0) → (∀ k, o = some k → left = P k ∧ ze_V S P v d k ∧ ze_m S k < n) → ∃ out, rj_we (bX12_findsEvening_44 r (nI v) a1) (n + 1) (nI left, mem) = (nI 0, out) ∧ rq_we (qX12_findsEvening_44 r (nI v) a1) (bX12_findsEvening_44 r (nI v) a1) (n + 1) (nI left, mem) ∧ out.1 395 8 = nI (t + (ze_run (ze_n S P v) n o).length) ∧ (∀ i k, (ze_run (ze_n S P v) n o)[i]? = some k → out.1 407 (t + i) = nI k) ∧ (∀ i, i < t → out.1 407 i = mem.1 407 i) ∧ (∀ k, k ≠ 395 → k ≠ 407 → out.1 k = mem.1 k) ∧ (∀ i, i ≠ 8 → out.1 395 i = mem.1 395 i) ∧ out.2 = mem.2
  | n, t, left, none, mem, prev, htn, hrow, h406, h8, hf, hn, hl0, hl1 => by
    have e0 := hl0 rfl
    subst e0
    have e : bX12_findsEvening_44 r (nI v) a1 (nI 0, mem) = .inr (nI 0, mem) := if_pos (show nI 0 ≤ 0 by decide)
    refine ⟨mem, rj_we_r e, ⟨⟨fun _ => trivial, fun z => absurd (show nI 0 ≤ 0 by decide) z⟩, ?_⟩, ?_, fun i k hi => ?_, fun _ _ => rfl, fun _ _ _ => rfl, fun _ _ => rfl, rfl⟩
    · rw [e]
      trivial
    · rw [ze_run_n]
      exact h8
    · rw [ze_run_n] at hi
      cases hi
  | 0, t, left, some k, mem, prev, htn, hrow, h406, h8, hf, hn, hl0, hl1 => absurd (hl1 k rfl).2.2 (Nat.not_lt_zero _)
  | n + 1, t, left, some k, mem, prev, htn, hrow, h406, h8, hf, hn, hl0, hl1 => by
    obtain ⟨hleft, hk, hmk⟩ := hl1 k rfl
    have hk16 := hk.1
    have hWP := hk.2.2.2.2
    have hW0 := hk.2.2.2.1
    have hb := hPb k hk16
    have hl : ¬ nI left ≤ 0 := nI_nle (by omega) (by omega)
    have hQk : ze_Q S P d k = P k := ze_Q_of hk.2.1 hk.2.2.1
    -- the search
    have hs : rj_we (bX12_findsEvening_52 r (nI v) a1 (nI left, mem)) 17 0 = nI k ∧ rq_we (qX12_findsEvening_52 r (nI v) a1 (nI left, mem)) (bX12_findsEvening_52 r (nI v) a1 (nI left, mem)) 17 0 := by
      have hp : ∀ j, j < 16 → ((ze_Q S P d j = left ∧ (t = 0 ∨ ze_end S prev + zk_fw (zk_w S) (ze_st S prev) (ze_st S j) ≤ ze_B S j)) ↔ (if t = 0 then 0 < ze_max (ze_Q S P d) ∧ ze_Q S P d j = ze_max (ze_Q S P d) else 0 < P prev - ze_W S v prev ∧ P j = P prev - ze_W S v prev ∧ ze_rc S j prev)) := fun j hj => by
        by_cases ht : t = 0
        · rw [if_pos ht]
          have h1 := ze_f_V hE (hf ht).symm
          constructor
          · rintro ⟨a, -⟩
            exact ⟨h1.2.2, by omega⟩
          · rintro ⟨-, a⟩
            exact ⟨by omega, .inl ht⟩
        · rw [if_neg ht]
          obtain ⟨n1, n2, n3⟩ := hn (by omega)
          obtain ⟨x1, x2, x3, -⟩ := ze_n_V ok hE n1 n3.symm
          constructor
          · rintro ⟨a, b⟩
            have hq := ze_Q_pos (S := S) (P := P) (d := d) (k := j) (by omega)
            refine ⟨by omega, by omega, hq.1, n1.2.1, hq.2.1.trans n1.2.2.1.symm, ?_⟩
            rcases b with b | b
            · exact absurd b ht
            · exact b
          · rintro ⟨a, b, c⟩
            have hq : ze_Q S P d j = P j := ze_Q_of c.1 (c.2.2.1.trans n1.2.2.1)
            exact ⟨by omega, .inr c.2.2.2⟩
      have hkp : (ze_Q S P d k = left ∧ (t = 0 ∨ ze_end S prev + zk_fw (zk_w S) (ze_st S prev) (ze_st S k) ≤ ze_B S k)) ∧ ∀ j, j < k → ¬ (ze_Q S P d j = left ∧ (t = 0 ∨ ze_end S prev + zk_fw (zk_w S) (ze_st S prev) (ze_st S j) ≤ ze_B S j)) := by
        by_cases ht : t = 0
        · obtain ⟨a1', a2', a3'⟩ := zf_find_some.mp (hf ht).symm
          refine ⟨(hp k hk16).mpr (by rw [if_pos ht]; exact a2'), fun j hj hc => a3' j hj ?_⟩
          have := (hp j (by omega)).mp hc
          rw [if_pos ht] at this
          exact this
        · obtain ⟨n1, n2, n3⟩ := hn (by omega)
          obtain ⟨a1', a2', a3'⟩ := zf_find_some.mp n3.symm
          refine ⟨(hp k hk16).mpr (by rw [if_neg ht]; exact a2'), fun j hj hc => a3' j hj ?_⟩
          have := (hp j (by omega)).mp hc
          rw [if_neg ht] at this
          exact this
      have hbody : ∀ j, j ≤ k → ((ze_Q S P d j = left ∧ (t = 0 ∨ ze_end S prev + zk_fw (zk_w S) (ze_st S prev) (ze_st S j) ≤ ze_B S j)) ∧ bX12_findsEvening_52 r (nI v) a1 (nI left, mem) (nI j) = .inr (nI j)) ∨ (¬ (ze_Q S P d j = left ∧ (t = 0 ∨ ze_end S prev + zk_fw (zk_w S) (ze_st S prev) (ze_st S j) ≤ ze_B S j)) ∧ bX12_findsEvening_52 r (nI v) a1 (nI left, mem) (nI j) = .inl (nI j + 1)) := fun j hj => by
        have hj16 : j < 16 := by omega
        have hqb : ze_Q S P d j ≤ 51840 := by
          have := hPb j hj16
          unfold ze_Q
          split <;> omega
        unfold bX12_findsEvening_52
        rw [nI_clamp (n := j) (by omega)]
        show ((_ ∧ _) ∧ (if mem.1 406 j = nI left then _ else _) = _) ∨ (_ ∧ (if mem.1 406 j = nI left then _ else _) = _)
        rw [h406 j hj16]
        by_cases c1 : ze_Q S P d j = left
        · rw [if_pos (by rw [c1])]
          by_cases ht : t = 0
          · rw [if_pos (show mem.1 395 8 ≤ 0 by rw [h8, ht]; decide)]
            exact .inl ⟨⟨c1, .inl ht⟩, rfl⟩
          · obtain ⟨n1, n2, n3⟩ := hn (by omega)
            have e1 : (mem.1 395 8 - 1).toNatClampNeg = t - 1 := by
              rw [h8, show (1 : Int32) = nI 1 from rfl, pk_sub (by omega)]
              exact nI_clamp (by omega)
            rw [if_neg (show ¬ mem.1 395 8 ≤ 0 by rw [h8]; exact nI_nle (by omega) (by omega)), e1, n2]
            rcases zq_reached hrow ok og hj16 n1.1 with ⟨b1, b2⟩ | ⟨b1, b2⟩
            · rw [b2, if_neg (by decide)]
              exact .inl ⟨⟨c1, .inr b1⟩, rfl⟩
            · rw [b2, if_pos rfl]
              refine .inr ⟨fun z => ?_, rfl⟩
              rcases z.2 with z | z
              · exact ht z
              · exact b1 z
        · rw [if_neg (fun z => c1 ((nI_eq (by omega) (by omega)).mp z))]
          exact .inr ⟨fun z => c1 z.1, rfl⟩
      have hqq : ∀ j, j ≤ k → qX12_findsEvening_52 r (nI v) a1 (nI left, mem) (nI j) := fun j hj => by
        have hj16 : j < 16 := by omega
        refine ⟨vp_in_nI hj16 (by decide), fun _ => ⟨fun _ => trivial, fun h0 => ?_⟩, fun _ => trivial⟩
        have ht : t ≠ 0 := fun z => h0 (by show mem.1 395 8 ≤ 0; rw [h8, z]; decide)
        obtain ⟨n1, n2, n3⟩ := hn (by omega)
        have e0 : mem.1 395 8 - 1 = nI (t - 1) := by
          rw [h8, show (1 : Int32) = nI 1 from rfl, pk_sub (by omega)]
        have e1 : (mem.1 395 8 - 1).toNatClampNeg = t - 1 := by
          rw [e0]
          exact nI_clamp (by omega)
        show vp_in (mem.1 395 8 - 1) 16 ∧ vp_in (nI j) 16 ∧ vp_in (mem.1 407 (mem.1 395 8 - 1).toNatClampNeg) 16 ∧ qX12_isReached mem (nI j) (mem.1 407 (mem.1 395 8 - 1).toNatClampNeg) ∧ True
        rw [e1, n2, e0]
        exact ⟨vp_in_nI (by omega) (by decide), vp_in_nI hj16 (by decide), vp_in_nI n1.1 (by decide), zq_reachedq hrow ok og hj16 n1.1, trivial⟩
      exact zw_first hkp.1 hkp.2 hbody hqq 17 0 (Nat.zero_le _) (by omega)
    obtain ⟨hs1, hs2⟩ := hs
    have ht8 : (mem.1 395 8).toNatClampNeg = t := by
      rw [h8]
      exact nI_clamp (by omega)
    have e : bX12_findsEvening_44 r (nI v) a1 (nI left, mem) = .inl (nI (left - ze_W S v k), rj_pi (rj_pi mem 407 t (nI k)) 395 8 (nI (t + 1))) := by
      unfold bX12_findsEvening_44
      rw [if_neg hl, hs1]
      show Sum.inl ((nI left - (fX12_wishOf (rj_pi (rj_pi mem 407 (mem.1 395 8).toNatClampNeg (nI k)) 395 8 (((rj_pi mem 407 (mem.1 395 8).toNatClampNeg (nI k)).1 395 8) + 1)) (nI v) (nI k))), (rj_pi (rj_pi mem 407 (mem.1 395 8).toNatClampNeg (nI k)) 395 8 (((rj_pi mem 407 (mem.1 395 8).toNatClampNeg (nI k)).1 395 8) + 1))) = _
      rw [ht8, zm_pi_ne (show 395 ≠ 407 by decide), h8, nI_1]
      have hrow2 : zr_row ((rj_pi (rj_pi mem 407 t (nI k)) 395 8 (nI (t + 1))).1 396) S B := zq_row_pi (zq_row_pi hrow (by decide)) (by decide)
      have hw : fX12_wishOf (rj_pi (rj_pi mem 407 t (nI k)) 395 8 (nI (t + 1))) (nI v) (nI k) = nI (ze_W S v k) := by
        rw [zq_wish hrow2 hv hk16]
        unfold ze_W
        rw [if_pos hk16]
      rw [hw, pk_sub (by omega)]
    have hin : qX12_findsEvening_44 r (nI v) a1 (nI left, mem) := by
      refine ⟨fun z => absurd z hl, fun _ => ⟨fun _ => ?_, ?_, ?_, trivial⟩⟩
      · rw [ra_we_eq]
        exact hs2
      · show vp_in (mem.1 395 8) 16
        rw [h8]
        exact vp_in_nI (by omega) (by decide)
      · rw [hs1]
        exact vp_in_nI hk16 (by decide)
    have hV' : ∀ x, ze_n S P v k = some x → left - ze_W S v k = P x ∧ ze_V S P v d x ∧ ze_m S x < n := fun x hx => by
      obtain ⟨x1, x2, x3, x4⟩ := ze_n_V ok hE hk hx
      exact ⟨by omega, x1, by omega⟩
    have hN' : ze_n S P v k = none → left - ze_W S v k = 0 := fun hx => by
      rcases Nat.eq_zero_or_pos (P k - ze_W S v k) with z | z
      · omega
      · obtain ⟨x, hx2⟩ := ze_n_some hE hk z
        rw [hx] at hx2
        cases hx2
    obtain ⟨out, o1, o2, o3, o4, o5, o6, o7, o8⟩ := zq_eloop ok og hv hE hPb (a1 := a1) n (t + 1) (left - ze_W S v k) (ze_n S P v k) (rj_pi (rj_pi mem 407 t (nI k)) 395 8 (nI (t + 1))) k (by omega) (zq_row_pi (zq_row_pi hrow (by decide)) (by decide)) (fun x hx => by rw [zm_pi_ne (by decide), zm_pi_ne (by decide)]; exact h406 x hx) zm_pi_eq (fun z => absurd z (Nat.succ_ne_zero _)) (fun _ => ⟨hk, by rw [zm_pi_ne (by decide), Nat.add_sub_cancel, zm_pi_eq], rfl⟩) hN' hV'
    refine ⟨out, (rj_we_l e).trans o1, ⟨hin, ?_⟩, ?_, fun i x hi => ?_, fun i hi => ?_, fun x h1 h2 => ?_, fun i hi => ?_, ?_⟩
    · rw [e]
      exact o2
    · rw [o3, ze_run_s, List.length_cons]
      exact congrArg nI (by omega)
    · rw [ze_run_s] at hi
      rcases i with _ | i
      · rw [List.getElem?_cons_zero] at hi
        cases hi
        rw [Nat.add_zero, o5 t (Nat.lt_succ_self t), zm_pi_ne (by decide), zm_pi_eq]
      · rw [List.getElem?_cons_succ] at hi
        have := o4 i x hi
        rw [show t + (i + 1) = t + 1 + i by omega]
        exact this
    · rw [o5 i (by omega), zm_pi_ne (by decide), zm_pi_ne2 (by omega)]
    · rw [o6 x h1 h2, zm_pi_ne h1, zm_pi_ne h2]
    · rw [o7 i hi, zm_pi_ne2 hi, zm_pi_ne (by decide)]
    · rw [o8]
      rfl
set_option maxRecDepth 100000 in
/-- findsEvening -/
theorem zq_even (h : zr_row (r.1 396) S B) (ok : zo_prog S) (og : zo_grnd S) (hv : v < 12) (hd : d < 4) (hE : ∀ k, k < 16 → zv_E (ze_W S v) (ze_rc S) P k) (hPb : ∀ k, k < 16 → P k + 9 * ze_B S k ≤ 51840) : qX12_findsEvening r (nI v) (nI d) ∧ fX12_findsEvening r (nI v) (nI d) = nI (ze_max (ze_Q S P d)) ∧ (mX12_findsEvening r (nI v) (nI d)).1 395 8 = nI (ze_row S P v d).length ∧ (∀ i k, (ze_row S P v d)[i]? = some k → (mX12_findsEvening r (nI v) (nI d)).1 407 i = nI k) ∧ (∀ k, k ≠ 395 → k ≠ 406 → k ≠ 407 → (mX12_findsEvening r (nI v) (nI d)).1 k = r.1 k) ∧ (∀ i, i ≠ 8 → (mX12_findsEvening r (nI v) (nI d)).1 395 i = r.1 395 i) ∧ (mX12_findsEvening r (nI v) (nI d)).2 = r.2 := by
  obtain ⟨p1, p2, p3, p4⟩ := zq_prices h ok og hv hd hE hPb
  have hPb' : ∀ k, k < 16 → P k ≤ 51840 := fun k hk => by
    have := hPb k hk
    omega
  have hQb : ∀ k, k < 16 → ze_Q S P d k ≤ 51840 := fun k hk => by
    have := hPb' k hk
    unfold ze_Q
    split <;> omega
  have hmax : rj_fo (bX12_findsEvening_11 r (nI v) (nI d)) 16 0 0 = nI (ze_max (ze_Q S P d)) := by
    unfold ze_max
    have hz := zf_rel (f := bX12_findsEvening_11 r (nI v) (nI d)) (g := fun k s => if s < ze_Q S P d k then ze_Q S P d k else s) (fun _ x y => x = nI y ∧ y ≤ 51840) 16 0 (0 : Int32) (0 : Nat) ⟨rfl, by decide⟩ (fun j x y _ hj hx => by
      obtain ⟨rfl, hy⟩ := hx
      have hq := hQb j (by omega)
      unfold bX12_findsEvening_11
      rw [nI_clamp (n := j) (by omega), p1 j (by omega)]
      by_cases c2 : y < ze_Q S P d j
      · rw [if_pos (nI_lt c2 (by omega)), if_pos c2]
        exact ⟨rfl, hq⟩
      · rw [if_neg (nI_nlt (by omega) (by omega)), if_neg c2]
        exact ⟨rfl, hy⟩)
    exact hz.1
  have hmb := ze_maxb hQb
  have hrow1 : zr_row ((rj_pi (mX12_findsPrices r (nI v) (nI d)) 395 8 0).1 396) S B := zq_row_pi (by rw [p2 396 (by decide)]; exact h) (by decide)
  obtain ⟨out, o1, o2, o3, o4, o5, o6, o7, o8⟩ := zq_eloop (r := r) ok og hv hE hPb' (a1 := nI d) (d := d) 16 0 (ze_max (ze_Q S P d)) (ze_f S P d) (rj_pi (mX12_findsPrices r (nI v) (nI d)) 395 8 0) 0 (by decide) hrow1 (fun k hk => by rw [zm_pi_ne (by decide)]; exact p1 k hk) zm_pi_eq (fun _ => rfl) (fun z => absurd z (Nat.lt_irrefl _)) (fun z => by
    rcases Nat.eq_zero_or_pos (ze_max (ze_Q S P d)) with e | e
    · exact e
    · obtain ⟨x, hx⟩ := ze_f_some e
      rw [z] at hx
      cases hx) (fun k hk => by
    obtain ⟨x1, x2, -⟩ := ze_f_V hE hk
    exact ⟨x2.symm, x1, ze_m16 x1.1⟩)
  have hm : mX12_findsEvening r (nI v) (nI d) = out := by
    unfold mX12_findsEvening
    rw [hmax, o1]
  rw [Nat.zero_add] at o3
  unfold qX12_findsEvening fX12_findsEvening
  rw [hm, hmax]
  refine ⟨⟨p4, fun _ => by rw [ra_we_eq]; exact o2, trivial⟩, rfl, o3, fun i k hi => ?_, fun k h1 h2 h3 => ?_, fun i hi => ?_, ?_⟩
  · have := o4 i k hi
    rw [Nat.zero_add] at this
    exact this
  · rw [o6 k h1 h3, zm_pi_ne h1]
    exact p2 k h2
  · rw [o7 i hi, zm_pi_ne2 hi, p2 395 (by decide)]
  · rw [o8, zm_pi_2]
    exact p3
end zqEven
/-! WHO LISTENS -/
noncomputable def zi (p : Prop) : Int32 := if zz p = true then 1 else 0
theorem zi_1 {p : Prop} (h : p) : zi p = 1 := if_pos (zz_t.mpr h)
theorem zi_0 {p : Prop} (h : ¬ p) : zi p = 0 := if_neg (fun z => h (zz_t.mp z))
theorem zi_01 {p : Prop} : zi p = 0 ∨ zi p = 1 := by
  by_cases h : p
  · exact .inr (zi_1 h)
  · exact .inl (zi_0 h)
theorem zi_eq0 {p : Prop} : zi p = 0 ↔ ¬ p := by
  by_cases h : p
  · rw [zi_1 h]
    exact ⟨fun z => absurd z (by decide), fun z => absurd h z⟩
  · rw [zi_0 h]
    exact ⟨fun _ => h, fun _ => rfl⟩
theorem zi_congr {p q : Prop} (h : p ↔ q) : zi p = zi q := by
  by_cases hp : p
  · rw [zi_1 hp, zi_1 (h.mp hp)]
  · rw [zi_0 hp, zi_0 (fun z => hp (h.mpr z))]
theorem zn_nb {x : Int32} (h : x = 0 ∨ x = 1) : narrow .boolean (.int x) = .int x := by
  rcases h with rfl | rfl <;> rfl
def ze_on (S : Nat → Nat) (st mn k : Nat) : Prop := S (24 + 6 * k) = st ∧ S (25 + 6 * k) ≤ mn ∧ mn < S (25 + 6 * k) + S (26 + 6 * k)
section zcAt
variable {m : rj_M} {S P : Nat → Nat} {v d st mn : Nat}
theorem zc_mloop (h : zc_pl1 m S P v) (ok : zo_prog S) (og : zo_grnd S) (hv : v < 12) (hst : st < 4) (hmn : mn < 5760) {j2 : Nat} {s2 : Unit} : ∀ (n j : Nat) (o : Option Nat), (∀ k, o = some k → ze_V S P v d k) → ((∃ z, rj_mx (bX2_isAt_17 m (nI st) (nI mn) j2 s2) n j (zo_i o) = .inl z) ∧ ∀ k, k ∈ ze_run (ze_n S P v) n o → ¬ ze_on S st mn k) ∨ (rj_mx (bX2_isAt_17 m (nI st) (nI mn) j2 s2) n j (zo_i o) = .inr () ∧ ∃ k, k ∈ ze_run (ze_n S P v) n o ∧ ze_on S st mn k)
  | 0, _, o, _ => .inl ⟨⟨_, rfl⟩, fun k hk => absurd hk List.not_mem_nil⟩
  | n + 1, j, none, _ => by
    have e : bX2_isAt_17 m (nI st) (nI mn) j2 s2 j (zo_i none) = .inl (.inr (zo_i none)) := if_pos rfl
    exact .inl ⟨⟨_, rj_mx_b e⟩, fun k hk => absurd hk List.not_mem_nil⟩
  | n + 1, j, some k, ho => by
    have hk := ho k rfl
    have hk16 := hk.1
    have hE := h.2.2.2.2.1
    have ih := zc_mloop h ok og hv hst hmn (j2 := j2) (s2 := s2) n (j + 1) (ze_n S P v k) (fun x hx => (ze_n_V ok hE hk hx).1)
    obtain ⟨-, b1, b2, b3, -⟩ := ok.1 k hk16
    have hnx := zc_nextBehind h ok og hv hk
    have hst1 := zc_stage1 h.1 ok hk16 hk.2.1
    have hcont : ¬ ze_on S st mn k → bX2_isAt_17 m (nI st) (nI mn) j2 s2 j (zo_i (some k)) = .inl (.inl (zo_i (ze_n S P v k))) → ((∃ z, rj_mx (bX2_isAt_17 m (nI st) (nI mn) j2 s2) (n + 1) j (zo_i (some k)) = .inl z) ∧ ∀ k', k' ∈ ze_run (ze_n S P v) (n + 1) (some k) → ¬ ze_on S st mn k') ∨ (rj_mx (bX2_isAt_17 m (nI st) (nI mn) j2 s2) (n + 1) j (zo_i (some k)) = .inr () ∧ ∃ k', k' ∈ ze_run (ze_n S P v) (n + 1) (some k) ∧ ze_on S st mn k') := fun hno e => by
      rw [rj_mx_l e, ze_run_s]
      rcases ih with ⟨i1, i2⟩ | ⟨i1, x, i2, i3⟩
      · refine .inl ⟨i1, fun k' hk' => ?_⟩
        rcases List.mem_cons.mp hk' with rfl | hk'
        · exact hno
        · exact i2 k' hk'
      · exact .inr ⟨i1, x, List.mem_cons_of_mem _ i2, i3⟩
    have hbody : bX2_isAt_17 m (nI st) (nI mn) j2 s2 j (zo_i (some k)) = (if nI (S (24 + 6 * k)) = nI st then (if (fX7_isOnIn m (nI k) (nI mn) (nI mn + 1)) = 0 then .inl (.inl (zo_i (ze_n S P v k))) else .inr ()) else .inl (.inl (zo_i (ze_n S P v k)))) := by
      unfold bX2_isAt_17
      rw [if_neg (zo_not (by omega))]
      show (if (fX7_stageOf m (nI k)) = nI st then (if (fX7_isOnIn m (nI k) (nI mn) (nI mn + 1)) = 0 then Sum.inl (Sum.inl (fX2_nextBehind m (nI k))) else .inr ()) else .inl (.inl (fX2_nextBehind m (nI k)))) = _
      rw [hst1, hnx]
    by_cases c1 : S (24 + 6 * k) = st
    · rw [if_pos (by rw [c1])] at hbody
      have hon : fX7_isOnIn m (nI k) (nI mn) (nI mn + 1) = if S (25 + 6 * k) ≤ mn ∧ mn < S (25 + 6 * k) + S (26 + 6 * k) then 1 else 0 := by
        have he := zc_endOf h.1 ok hk16
        rw [if_pos hk.2.1] at he
        unfold fX7_isOnIn
        rcases zc_has h.1 ok hk16 with ⟨-, e2⟩ | ⟨e1, -⟩
        · rw [e2, if_neg (by decide), nI_clamp (n := k) (by omega), zc_begin h.1 hk16, nI_1, he]
          by_cases c2 : S (25 + 6 * k) ≤ mn
          · rw [if_neg (show ¬ nI (mn + 1) ≤ nI (S (25 + 6 * k)) from nI_ge (by omega) (by omega))]
            by_cases c3 : mn < S (25 + 6 * k) + S (26 + 6 * k)
            · rw [if_neg (nI_ge c3 (by omega)), if_pos ⟨c2, c3⟩]
            · rw [if_pos (nI_le (by omega) (by omega)), if_neg (fun z => c3 z.2)]
          · rw [if_pos (nI_le (by omega) (by omega)), if_neg (fun z => c2 z.1)]
        · exact absurd hk.2.1 e1
      rw [hon] at hbody
      by_cases c2 : S (25 + 6 * k) ≤ mn ∧ mn < S (25 + 6 * k) + S (26 + 6 * k)
      · rw [if_pos c2, if_neg (by decide)] at hbody
        exact .inr ⟨rj_mx_r hbody, k, by rw [ze_run_s]; exact List.mem_cons_self, c1, c2⟩
      · rw [if_neg c2, if_pos rfl] at hbody
        exact hcont (fun z => c2 z.2) hbody
    · rw [if_neg (fun z => c1 ((nI_eq (by omega) (by omega)).mp z))] at hbody
      exact hcont (fun z => c1 z.1) hbody
theorem zc_isAt (h : zc_pl1 m S P v) (ok : zo_prog S) (og : zo_grnd S) (hv : v < 12) (hst : st < 4) (hmn : mn < 5760) : fX2_isAt m (nI st) (nI mn) = zi (∃ d, d < 4 ∧ ∃ k, k ∈ ze_row S P v d ∧ ze_on S st mn k) := by
  have hE := h.2.2.2.2.1
  unfold fX2_isAt
  rcases zx_find (f := bX2_isAt_2 m (nI st) (nI mn)) (fun d => ∃ k, k ∈ ze_row S P v d ∧ ze_on S st mn k) (fun _ => ()) 4 0 (fun i _ hi => by
    unfold bX2_isAt_2
    rw [zc_firstOn h ok (show i < 4 by omega)]
    rcases zc_mloop h ok og hv hst hmn (d := i) (j2 := i) (s2 := ()) 16 0 (ze_f S P i) (fun k hk => (ze_f_V hE hk).1) with ⟨⟨z, e1⟩, e2⟩ | ⟨e1, e2⟩
    · rw [e1]
      exact .inr ⟨fun ⟨k, k1, k2⟩ => e2 k k1 k2, rfl⟩
    · rw [e1]
      exact .inl ⟨e2, rfl⟩) with ⟨i, h1, h2, h3, h4, h5⟩ | ⟨h1, h2⟩
  · rw [h5, zi_1 ⟨i, by omega, h3⟩]
    rfl
  · rw [h2, zi_0 (fun ⟨d, d1, d2⟩ => h1 d (Nat.zero_le _) (by omega) d2)]
    rfl
end zcAt
theorem zq_l62 {r : rj_M} {a0 a1 a2 : Int32} {d : Nat} {s : Int32 × rj_M} : (bX12_isListening_6 r a0 a1 a2 d s).2 = mX12_findsEvening s.2 a0 (nI d) := by
  unfold bX12_isListening_6
  dsimp only
section zqAt
variable {r : rj_M} {S P : Nat → Nat} {B : Nat → Int} {v d st mn : Nat}
set_option maxRecDepth 100000 in
theorem zq_listen (h : zr_row (r.1 396) S B) (ok : zo_prog S) (og : zo_grnd S) (hv : v < 12) (hst : st < 4) (hmn : mn < 5760) (hE : ∀ k, k < 16 → zv_E (ze_W S v) (ze_rc S) P k) (hPb : ∀ k, k < 16 → P k + 9 * ze_B S k ≤ 51840) : qX12_isListening r (nI v) (nI st) (nI mn) ∧ fX12_isListening r (nI v) (nI st) (nI mn) = zi (∃ d, d < 4 ∧ ∃ k, k ∈ ze_row S P v d ∧ ze_on S st mn k) ∧ (∀ k, k ≠ 395 → k ≠ 406 → k ≠ 407 → (mX12_isListening r (nI v) (nI st) (nI mn)).1 k = r.1 k) ∧ (∀ i, i ≠ 8 → (mX12_isListening r (nI v) (nI st) (nI mn)).1 395 i = r.1 395 i) ∧ (mX12_isListening r (nI v) (nI st) (nI mn)).2 = r.2 := by
  have step : ∀ (d : Nat) (s : Int32 × rj_M) (p0 : Prop), d < 4 → s.1 = zi p0 → ((∀ k, k ≠ 395 → k ≠ 406 → k ≠ 407 → s.2.1 k = r.1 k) ∧ (∀ i, i ≠ 8 → s.2.1 395 i = r.1 395 i) ∧ s.2.2 = r.2) → qX12_isListening_6 r (nI v) (nI st) (nI mn) d s ∧ (bX12_isListening_6 r (nI v) (nI st) (nI mn) d s).1 = zi (p0 ∨ ∃ k, k ∈ ze_row S P v d ∧ ze_on S st mn k) ∧ ((∀ k, k ≠ 395 → k ≠ 406 → k ≠ 407 → (bX12_isListening_6 r (nI v) (nI st) (nI mn) d s).2.1 k = r.1 k) ∧ (∀ i, i ≠ 8 → (bX12_isListening_6 r (nI v) (nI st) (nI mn) d s).2.1 395 i = r.1 395 i) ∧ (bX12_isListening_6 r (nI v) (nI st) (nI mn) d s).2.2 = r.2) := fun d s p0 hd hs0 hs => by
    have hrow : zr_row (s.2.1 396) S B := by rw [hs.1 396 (by decide) (by decide) (by decide)]; exact h
    obtain ⟨e1, e2, e3, e4, e5, e6, e7⟩ := zq_even hrow ok og hv hd hE hPb
    have hV : ∀ k, k ∈ ze_row S P v d → ze_V S P v d k := ze_run_V ok hE 16 (ze_f S P d) (fun k hk => (ze_f_V hE hk).1)
    have hlen := ze_run_len (nx := ze_n S P v) 16 (ze_f S P d)
    have hl16 : (ze_row S P v d).length ≤ 16 := hlen
    have hrow2 : zr_row ((mX12_findsEvening s.2 (nI v) (nI d)).1 396) S B := by rw [e5 396 (by decide) (by decide) (by decide)]; exact hrow
    have hmb := ze_maxb (Q := ze_Q S P d) (M := 51840) (fun k hk => by
      have := hPb k hk
      unfold ze_Q
      split <;> omega)
    have hN : ((mX12_findsEvening s.2 (nI v) (nI d)).1 395 8).toInt.toNat - 0 = (ze_row S P v d).length := by
      rw [e3]
      exact zn_toN (by omega)
    have hpos : ∀ j, j < (ze_row S P v d).length → ¬ fX12_findsEvening s.2 (nI v) (nI d) ≤ 0 := fun j hj => by
      rw [e2]
      refine nI_nle ?_ (by omega)
      rcases Nat.eq_zero_or_pos (ze_max (ze_Q S P d)) with z | z
      · unfold ze_row at hj
        rw [ze_f_none z, ze_run_n] at hj
        exact absurd hj (Nat.not_lt_zero _)
      · exact z
    have hget : ∀ j, j < (ze_row S P v d).length → ∃ k, (ze_row S P v d)[j]? = some k ∧ ze_V S P v d k ∧ (mX12_findsEvening s.2 (nI v) (nI d)).1 407 (nI j).toNatClampNeg = nI k := fun j hj => by
      refine ⟨(ze_row S P v d)[j], List.getElem?_eq_getElem hj, hV _ (List.getElem_mem hj), ?_⟩
      rw [nI_clamp (n := j) (by omega)]
      exact e4 j _ (List.getElem?_eq_getElem hj)
    have hit : ∀ (j : Nat) (x : Int32) (k : Nat), j < (ze_row S P v d).length → (ze_row S P v d)[j]? = some k → bX12_isListening_24 r (nI v) (nI st) (nI mn) d s j x = .inl (if x = 0 then zi (ze_on S st mn k) else 1) := fun j x k hj hk => by
      obtain ⟨k', k1, k2, k3⟩ := hget j hj
      have ek : k' = k := by
        rw [hk] at k1
        cases k1
        rfl
      subst ek
      obtain ⟨-, b1, b2, b3, -⟩ := ok.1 k' k2.1
      unfold bX12_isListening_24
      rw [if_neg (hpos j hj)]
      by_cases cx : x = 0
      · rw [if_pos cx, if_pos cx, k3, zq_stage hrow2 k2.1, zq_begin hrow2 k2.1, zq_end hrow2 k2.1]
        by_cases c1 : S (24 + 6 * k') = st
        · rw [if_pos (by rw [c1])]
          by_cases c2 : S (25 + 6 * k') ≤ mn
          · rw [if_neg (nI_nlt c2 (by omega))]
            by_cases c3 : mn < S (25 + 6 * k') + S (26 + 6 * k')
            · rw [if_neg (nI_ge c3 (by omega)), zi_1 ⟨c1, c2, c3⟩]
            · rw [if_pos (nI_le (by omega) (by omega)), zi_0 (fun z => c3 z.2.2)]
          · rw [if_pos (nI_lt (by omega) (by omega)), zi_0 (fun z => c2 z.2.1)]
        · rw [if_neg (fun z => c1 ((nI_eq (by omega) (by omega)).mp z)), zi_0 (fun z => c1 z.1)]
      · rw [if_neg cx, if_neg cx]
    have hI : ∀ j (x : Int32), j < (ze_row S P v d).length → x = zi (p0 ∨ ∃ i k, i < j ∧ (ze_row S P v d)[i]? = some k ∧ ze_on S st mn k) → ∀ k, (ze_row S P v d)[j]? = some k → (if x = 0 then zi (ze_on S st mn k) else 1) = zi (p0 ∨ ∃ i k, i < j + 1 ∧ (ze_row S P v d)[i]? = some k ∧ ze_on S st mn k) := fun j x hj hx k hk => by
      by_cases cx : x = 0
      · rw [if_pos cx]
        rw [cx] at hx
        have hno := zi_eq0.mp hx.symm
        refine zi_congr ⟨fun z => .inr ⟨j, k, Nat.lt_succ_self j, hk, z⟩, fun z => ?_⟩
        rcases z with z | ⟨i, k', z1, z2, z3⟩
        · exact absurd (.inl z) hno
        · by_cases e : i = j
          · subst e
            rw [hk] at z2
            cases z2
            exact z3
          · exact absurd (.inr ⟨i, k', by omega, z2, z3⟩) hno
      · rw [if_neg cx]
        rcases zi_01 (p := (p0 ∨ ∃ i k, i < j ∧ (ze_row S P v d)[i]? = some k ∧ ze_on S st mn k)) with z | z
        · exact absurd (hx.trans z) cx
        · have hyes : (p0 ∨ ∃ i k, i < j ∧ (ze_row S P v d)[i]? = some k ∧ ze_on S st mn k) := by
            refine Classical.byContradiction (fun w => ?_)
            rw [zi_0 w] at z
            exact absurd z (by decide)
          refine (zi_1 ?_).symm
          rcases hyes with z | ⟨i, k', z1, z2, z3⟩
          · exact .inl z
          · exact .inr ⟨i, k', by omega, z2, z3⟩
    have h0 : s.1 = zi (p0 ∨ ∃ i k, i < 0 ∧ (ze_row S P v d)[i]? = some k ∧ ze_on S st mn k) := hs0.trans (zi_congr ⟨.inl, fun z => by
      rcases z with z | ⟨i, k, z1, -⟩
      · exact z
      · exact absurd z1 (Nat.not_lt_zero _)⟩)
    refine ⟨⟨e1, fun _ => ra_ix_i ?_, trivial⟩, ?_, fun k h1 h2 h3 => ?_, fun i hi => ?_, ?_⟩
    · rw [hN]
      refine zx_q (fun j x => x = zi (p0 ∨ ∃ i k, i < j ∧ (ze_row S P v d)[i]? = some k ∧ ze_on S st mn k)) _ 0 s.1 h0 (fun j x _ hj hx => ?_)
      have hj' : j < (ze_row S P v d).length := by omega
      obtain ⟨k, k1, k2, k3⟩ := hget j hj'
      refine ⟨⟨fun z => absurd z (hpos j hj'), fun _ => ⟨fun _ => ?_, fun _ => trivial⟩⟩, fun z hz => ?_⟩
      · have a1 : vp_in (nI j) 16 := vp_in_nI (by omega) (by decide)
        have a2 : vp_in ((mX12_findsEvening s.2 (nI v) (nI d)).1 407 (nI j).toNatClampNeg) 16 := by
          rw [k3]
          exact vp_in_nI k2.1 (by decide)
        exact ⟨a1, a2, fun _ => ⟨a1, a2, fun _ => trivial, fun _ => ⟨a1, a2, trivial⟩⟩, fun _ => trivial⟩
      · rw [hit j x k hj' k1] at hz
        cases hz
        exact hI j x hj' hx k k1
    · unfold bX12_isListening_6
      rw [hN]
      refine zb_inv (f := bX12_isListening_24 r (nI v) (nI st) (nI mn) d s) (fun j x => x = zi (p0 ∨ ∃ i k, i < j ∧ (ze_row S P v d)[i]? = some k ∧ ze_on S st mn k)) (fun x => x = zi (p0 ∨ ∃ k, k ∈ ze_row S P v d ∧ ze_on S st mn k)) _ 0 s.1 h0 (fun j x _ hj hx => ?_) (fun x hx => ?_)
      · have hj' : j < (ze_row S P v d).length := by omega
        obtain ⟨k, k1, k2, k3⟩ := hget j hj'
        rw [hit j x k hj' k1]
        refine ⟨fun z hz => ?_, fun w hw => by cases hw⟩
        cases hz
        exact hI j x hj' hx k k1
      · rw [hx, Nat.zero_add]
        refine zi_congr ⟨fun z => ?_, fun z => ?_⟩
        · rcases z with z | ⟨i, k, z1, z2, z3⟩
          · exact .inl z
          · exact .inr ⟨k, List.mem_of_getElem? z2, z3⟩
        · rcases z with z | ⟨k, z1, z2⟩
          · exact .inl z
          · obtain ⟨i, hi, e⟩ := List.getElem_of_mem z1
            exact .inr ⟨i, k, hi, by rw [List.getElem?_eq_getElem hi, e], z2⟩
    · rw [zq_l62]
      exact (e5 k h1 h2 h3).trans (hs.1 k h1 h2 h3)
    · rw [zq_l62]
      exact (e6 i hi).trans (hs.2.1 i hi)
    · rw [zq_l62]
      exact e7.trans hs.2.2
  have h0 : ((0 : Int32), r).1 = zi (∃ d, d < 0 ∧ ∃ k, k ∈ ze_row S P v d ∧ ze_on S st mn k) := (zi_0 (fun ⟨d, d1, _⟩ => absurd d1 (Nat.not_lt_zero _))).symm
  have hmem0 : (∀ k, k ≠ 395 → k ≠ 406 → k ≠ 407 → ((0 : Int32), r).2.1 k = r.1 k) ∧ (∀ i, i ≠ 8 → ((0 : Int32), r).2.1 395 i = r.1 395 i) ∧ ((0 : Int32), r).2.2 = r.2 := ⟨fun _ _ _ _ => rfl, fun _ _ => rfl, rfl⟩
  have hcomb : ∀ j, (((∃ d, d < j ∧ ∃ k, k ∈ ze_row S P v d ∧ ze_on S st mn k) ∨ ∃ k, k ∈ ze_row S P v j ∧ ze_on S st mn k) ↔ ∃ d, d < j + 1 ∧ ∃ k, k ∈ ze_row S P v d ∧ ze_on S st mn k) := fun j => by
    constructor
    · rintro (⟨d, d1, d2⟩ | z)
      · exact ⟨d, by omega, d2⟩
      · exact ⟨j, Nat.lt_succ_self j, z⟩
    · rintro ⟨d, d1, d2⟩
      by_cases e : d = j
      · subst e
        exact .inr d2
      · exact .inl ⟨d, by omega, d2⟩
  have hz := zf_inv (f := bX12_isListening_6 r (nI v) (nI st) (nI mn)) (fun j s => s.1 = zi (∃ d, d < j ∧ ∃ k, k ∈ ze_row S P v d ∧ ze_on S st mn k) ∧ ((∀ k, k ≠ 395 → k ≠ 406 → k ≠ 407 → s.2.1 k = r.1 k) ∧ (∀ i, i ≠ 8 → s.2.1 395 i = r.1 395 i) ∧ s.2.2 = r.2)) 4 0 (0, r) ⟨h0, hmem0⟩ (fun j s _ hj hs => by
    obtain ⟨-, b1, b2⟩ := step j s _ (by omega) hs.1 hs.2
    exact ⟨b1.trans (zi_congr (hcomb j)), b2⟩)
  unfold qX12_isListening fX12_isListening mX12_isListening
  refine ⟨⟨fun _ => ra_fo_i (zf_q (fun j s => s.1 = zi (∃ d, d < j ∧ ∃ k, k ∈ ze_row S P v d ∧ ze_on S st mn k) ∧ ((∀ k, k ≠ 395 → k ≠ 406 → k ≠ 407 → s.2.1 k = r.1 k) ∧ (∀ i, i ≠ 8 → s.2.1 395 i = r.1 395 i) ∧ s.2.2 = r.2)) 4 0 (0, r) ⟨h0, hmem0⟩ (fun j s _ hj hs => by
    obtain ⟨b0, b1, b2⟩ := step j s _ (by omega) hs.1 hs.2
    exact ⟨b0, b1.trans (zi_congr (hcomb j)), b2⟩)), zn_nb (by rw [hz.1]; exact zi_01), trivial⟩, hz.1, hz.2⟩
end zqAt
