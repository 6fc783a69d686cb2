/-! BARS: one line for all; who goes out; a minute that passes -/
section zqOne2
variable {r : rj_M} {S : Nat → Nat} {B : Nat → Int} {q : List Nat} {w : Nat → Nat}
theorem zq_best {f : Nat → Nat} {k : Nat} {s : Int32 × Int32 × Int32 × rj_M} {a : rj_M} (hf : ∀ i, i < 3 → s.2.2.2.1 k i = nI (f i)) (hb : ∀ i, i < 3 → f i < 2 ^ 20) : rj_fo (bX12_waitsInOne_65 a k s) 2 1 0 = nI (zb_mf f) ∧ rq_fo (qX12_waitsInOne_65 a k s) (bX12_waitsInOne_65 a k s) 2 1 0 := by
  have st : ∀ j x y, 1 ≤ j → j < 1 + 2 → x = nI y ∧ y < 3 → bX12_waitsInOne_65 a k s j x = nI (if f y ≤ f j then y else j) ∧ (if f y ≤ f j then y else j) < 3 := fun j x y h1 hj hx => by
    obtain ⟨rfl, hy⟩ := hx
    have b1 := hb y hy
    have b2 := hb j (by omega)
    unfold bX12_waitsInOne_65
    rw [nI_clamp (n := y) (by omega), nI_clamp (n := j) (by omega), hf y hy, hf j (by omega)]
    by_cases c1 : f y ≤ f j
    · rw [if_pos (nI_le c1 (by omega)), if_pos c1]
      exact ⟨rfl, hy⟩
    · rw [if_neg (nI_ge (by omega) (by omega)), if_neg c1]
      exact ⟨rfl, by omega⟩
  have hz := zf_rel (f := bX12_waitsInOne_65 a k s) (g := fun j s => if f s ≤ f j then s else j) (fun _ x y => x = nI y ∧ y < 3) 2 1 (0 : Int32) (0 : Nat) ⟨rfl, by decide⟩ (fun j x y h1 hj hx => st j x y h1 hj hx)
  refine ⟨hz.1, zf_q (fun _ x => ∃ y, x = nI y ∧ y < 3) 2 1 (0 : Int32) ⟨0, rfl, by decide⟩ (fun j x h1 hj hx => ?_)⟩
  obtain ⟨y, hy⟩ := hx
  refine ⟨⟨?_, trivial⟩, _, st j x y h1 hj hy⟩
  rw [hy.1]
  exact vp_in_nI hy.2 (by decide)
theorem zq_one1 (h : zr_row (r.1 396) S B) (hq : zr_line S q w) {nn : Nat} (ok : zo_bars S nn) (hn : nn ≤ 1000) {k : Nat} (hk : 440 ≤ k) : ∀ (n : Nat) (rest pre : List Nat) (t : Nat) (p : Nat × (Nat → Nat)) (mem : rj_M) (J : Nat), zb_N q w = pre ++ rest → rest.length < n → (∀ u, u ∈ pre → S (373 + u) ≤ J) → (∀ u, u ∈ rest → J < S (373 + u)) → J ≤ 1000 → zb_ok t p → t + rest.length ≤ 12 → (∀ i, i < 3 → mem.1 k i = nI (p.2 i)) → (∀ k', k' ≠ k → mem.1 k' = r.1 k') → mem.2 = r.2 → ((rj_we (bX12_waitsInOne_53 r k) n (nI p.1, nI J, zo_i rest.head?, mem)).1 = nI (zb_run (S 330) rest.length p).1 ∧ (∀ k', k' ≠ k → (rj_we (bX12_waitsInOne_53 r k) n (nI p.1, nI J, zo_i rest.head?, mem)).2.2.2.1 k' = r.1 k') ∧ (rj_we (bX12_waitsInOne_53 r k) n (nI p.1, nI J, zo_i rest.head?, mem)).2.2.2.2 = r.2 ∧ rq_we (qX12_waitsInOne_53 r k) (bX12_waitsInOne_53 r k) n (nI p.1, nI J, zo_i rest.head?, mem))
  | 0, _, _, _, _, _, _, _, hf, _, _, _, _, _, _, _, _ => absurd hf (Nat.not_lt_zero _)
  | n + 1, [], pre, t, p, mem, J, hN, hf, h1, h2, hJ, hp, ht, hm, ho, hm2 => by
    have e : bX12_waitsInOne_53 r k (nI p.1, nI J, zo_i ([] : List Nat).head?, mem) = .inr (nI p.1, nI J, zo_i ([] : List Nat).head?, mem) := if_pos rfl
    rw [rj_we_r e]
    refine ⟨rfl, ho, hm2, ⟨fun _ => trivial, fun z => absurd rfl z⟩, ?_⟩
    rw [e]
    trivial
  | n + 1, a :: rest, pre, t, p, mem, J, hN, hf, h1, h2, hJ, hp, ht, hm, ho, hm2 => by
    have hl := zb_ln12 hq
    have haN : a ∈ zb_N q w := by rw [hN]; exact List.mem_append_right _ List.mem_cons_self
    have haq : a ∈ q := (List.mem_filter.mp haN).1
    have ha12 := hq.2.1 a haq
    have hSa := hq.2.2.2.2.2.1 a haq
    have hS385 := ok.2.2.2.1
    rw [List.length_cons] at hf ht
    have hpb := hp.1
    have hbd : ∀ i, i < 3 → p.2 i < 2 ^ 20 := fun i hi => by
      have := hpb i hi
      omega
    obtain ⟨b1, b2⟩ := zq_best (a := r) (k := k) (s := (nI p.1, nI J, zo_i (a :: rest).head?, mem)) hm hbd
    have hmf := zb_mf3 (f := p.2)
    have hfb := hbd _ hmf
    have hna : ¬ zo_i (a :: rest).head? = -1 := zo_not (k := a) (by omega)
    have hmem : zr_row ((rj_pi mem k (zb_mf p.2) (nI (p.2 (zb_mf p.2) + S 330))).1 396) S B := by
      rw [zm_pi_ne (by omega), ho 396 (by omega)]
      exact h
    have ea : (373 + nI a).toNatClampNeg = 373 + a := pk_cl _ (by rw [show (373 : Int32) = nI 373 from rfl, nI_add]) (by omega)
    have e330 : (330 : Int32).toNatClampNeg = 330 := by decide
    have h2a := h2 a List.mem_cons_self
    have hs := zb_N_sorted hq
    rw [hN] at hs
    have hs2 := List.pairwise_append.mp hs
    have hnx := zq_next_is hmem hq ok hn (J := S (373 + a)) (by omega) (pre := pre ++ [a]) (rest := rest) (by rw [hN, List.append_assoc]; rfl) (fun u hu => by
      rcases List.mem_append.mp hu with z | z
      · have := h1 u z
        omega
      · rw [List.mem_singleton.mp z]
        exact Nat.le_refl _) (fun u hu => (List.pairwise_cons.mp hs2.2.1).1 u hu)
    have e0 : bX12_waitsInOne_53 r k (nI p.1, nI J, zo_i (a :: rest).head?, mem) = .inl (nI (zb_stp (S 330) p).1, nI (S (373 + a)), zo_i rest.head?, rj_pi mem k (zb_mf p.2) (nI (p.2 (zb_mf p.2) + S 330))) := by
      unfold bX12_waitsInOne_53
      rw [if_neg (show ¬ (nI p.1, nI J, zo_i (a :: rest).head?, mem).2.2.1 = -1 from hna), b1, nI_clamp (n := zb_mf p.2) (by omega), e330]
      show Sum.inl ((nI p.1 + mem.1 k (zb_mf p.2)), (rj_pi mem k (zb_mf p.2) (mem.1 k (zb_mf p.2) + mem.1 396 330)).1 396 (373 + nI a).toNatClampNeg, (fX12_nextBehind (rj_pi mem k (zb_mf p.2) (mem.1 k (zb_mf p.2) + mem.1 396 330)) ((rj_pi mem k (zb_mf p.2) (mem.1 k (zb_mf p.2) + mem.1 396 330)).1 396 (373 + nI a).toNatClampNeg)), (rj_pi mem k (zb_mf p.2) (mem.1 k (zb_mf p.2) + mem.1 396 330))) = _
      have hr330 : mem.1 396 330 = nI (S 330) := by
        rw [ho 396 (by omega)]
        exact h.1 330 (by decide)
      rw [hm _ hmf, hr330, nI_add, nI_add, ea, hmem.1 (373 + a) (by omega), hnx]
      rfl
    have hq0 : qX12_waitsInOne_53 r k (nI p.1, nI J, zo_i (a :: rest).head?, mem) := by
      unfold qX12_waitsInOne_53
      rw [b1, nI_clamp (n := zb_mf p.2) (by omega), e330]
      refine ⟨fun z => absurd z hna, fun _ => ⟨fun _ => ra_fo_i b2, vp_in_nI hmf (by decide), vp_in_nI hmf (by decide), vp_in_nI hmf (by decide), ?_, ?_, trivial⟩⟩
      · show vp_in (373 + nI a) 625
        rw [show (373 : Int32) = nI 373 from rfl, nI_add]
        exact vp_in_nI (by omega) (by decide)
      · show qX12_nextBehind (rj_pi mem k (zb_mf p.2) (mem.1 k (zb_mf p.2) + mem.1 396 330)) ((rj_pi mem k (zb_mf p.2) (mem.1 k (zb_mf p.2) + mem.1 396 330)).1 396 (373 + nI a).toNatClampNeg)
        have hr330 : mem.1 396 330 = nI (S 330) := by
          rw [ho 396 (by omega)]
          exact h.1 330 (by decide)
        rw [hm _ hmf, hr330, nI_add, ea, hmem.1 (373 + a) (by omega)]
        exact (zq_next hmem hq ok hn (by omega)).2
    have ih := zq_one1 h hq ok hn hk n rest (pre ++ [a]) (t + 1) (zb_stp (S 330) p) (rj_pi mem k (zb_mf p.2) (nI (p.2 (zb_mf p.2) + S 330))) (S (373 + a)) (by rw [hN, List.append_assoc]; rfl) (by omega) (fun u hu => by
      rcases List.mem_append.mp hu with z | z
      · have := h1 u z
        omega
      · rw [List.mem_singleton.mp z]
        exact Nat.le_refl _) (fun u hu => (List.pairwise_cons.mp hs2.2.1).1 u hu) (by omega) (zb_ok_s hp ok.2.1 (by omega)) (by omega) (fun i hi => by
      show _ = nI (if i = zb_mf p.2 then p.2 i + S 330 else p.2 i)
      by_cases e : i = zb_mf p.2
      · rw [if_pos e, e, zm_pi_eq]
      · rw [if_neg e, zm_pi_ne2 e]
        exact hm i hi) (fun k' hk' => (zm_pi_ne hk').trans (ho k' hk')) hm2
    obtain ⟨i1, i2, i3, i4⟩ := ih
    rw [rj_we_l e0, List.length_cons]
    refine ⟨i1, i2, i3, hq0, ?_⟩
    rw [e0]
    exact i4
theorem zq_sumOne (h : zr_row (r.1 396) S B) (hq : zr_line S q w) {nn : Nat} (ok : zo_bars S nn) (hn : nn ≤ 1000) {k : Nat} (hk : 440 ≤ k) : fX12_waitsInOne r k = nI (zb_run (S 330) (zb_N q w).length (0, zb_f0 S q w)).1 ∧ (∀ k', k' ≠ k → (mX12_waitsInOne r k).1 k' = r.1 k') ∧ (mX12_waitsInOne r k).2 = r.2 ∧ qX12_waitsInOne r k := by
  have hl := zb_ln12 hq
  have h1 := zf_inv (f := bX12_waitsInOne_6 r k) (fun n t => (∀ j, j < n → t.1 k j = nI (zb_f0 S q w j)) ∧ (∀ k', k' ≠ k → t.1 k' = r.1 k') ∧ t.2 = r.2) 3 0 r ⟨fun j hj => absurd hj (Nat.not_lt_zero _), fun _ _ => rfl, rfl⟩ (fun n t _ hn3 ⟨t1, t2, t3⟩ => by
    have hn' : n < 3 := by omega
    have ht : zr_row (t.1 396) S B := by rw [t2 396 (by omega)]; exact h
    have fin : ∀ v, v = nI (zb_f0 S q w n) → (∀ j, j < n + 1 → (rj_pi t k n v).1 k j = nI (zb_f0 S q w j)) ∧ (∀ k', k' ≠ k → (rj_pi t k n v).1 k' = r.1 k') ∧ (rj_pi t k n v).2 = r.2 := fun v hv => ⟨fun j hj => by
      by_cases e : j = n
      · rw [e, zm_pi_eq]
        exact hv
      · rw [zm_pi_ne2 e]
        exact t1 j (by omega), fun k' hk' => (zm_pi_ne hk').trans (t2 k' hk'), t3⟩
    have hlb : (zb_L q w n).length ≤ 12 := Nat.le_trans zb_L_len hl
    have e : (370 + nI n).toNatClampNeg = 370 + n := pk_cl _ (by rw [show (370 : Int32) = nI 370 from rfl, nI_add]) (by omega)
    unfold bX12_waitsInOne_6
    rw [zq_lineOf ht hq hn', nI_clamp (n := n) (by omega), e, ht.1 (370 + n) (by omega)]
    by_cases c1 : (zb_L q w n).length = 0
    · rw [if_pos (by rw [c1]; rfl)]
      refine fin 0 ?_
      unfold zb_f0
      rw [if_pos c1]
      rfl
    · rw [if_neg (nI_ne0 (by omega) (by omega))]
      refine fin _ ?_
      unfold zb_f0
      rw [if_neg c1])
  obtain ⟨g1, g2, g3⟩ := h1
  unfold fX12_waitsInOne mX12_waitsInOne qX12_waitsInOne
  generalize rj_fo (bX12_waitsInOne_6 r k) 3 0 r = m0 at g1 g2 g3 ⊢
  have hok0 : zb_ok 0 (0, zb_f0 S q w) := ⟨fun j hj => by
    show zb_f0 S q w j ≤ _
    have := ok.2.2.1 j hj
    unfold zb_f0
    split <;> omega, Nat.zero_le _⟩
  have hNl : (zb_N q w).length ≤ q.length := List.length_filter_le _ _
  have hNp : ∀ u, u ∈ zb_N q w → 0 < S (373 + u) := fun u hu => (hq.2.2.2.2.2.1 u (List.mem_filter.mp hu).1).1
  have hrow0 : zr_row (m0.1 396) S B := by rw [g2 396 (by omega)]; exact h
  have hnx := zq_next_is hrow0 hq ok hn (J := 0) (by omega) (pre := []) (rest := zb_N q w) rfl (fun u hu => absurd hu List.not_mem_nil) hNp
  have hqn := (zq_next hrow0 hq ok hn (J := 0) (by omega)).2
  have hz := zq_one1 h hq ok hn hk 14 (zb_N q w) [] 0 (0, zb_f0 S q w) m0 0 rfl (by omega) (fun u hu => absurd hu List.not_mem_nil) hNp (by omega) hok0 (by omega) (fun i hi => g1 i (by omega)) g2 g3
  rw [show nI 0 = (0 : Int32) from rfl] at hnx hqn
  rw [← hnx] at hz
  generalize fX12_nextBehind m0 0 = x0 at hz ⊢
  rw [show nI ((0 : Nat), zb_f0 S q w).1 = (0 : Int32) from rfl] at hz
  generalize rj_we (bX12_waitsInOne_53 r k) 14 (0, 0, x0, m0) = out at hz ⊢
  exact ⟨hz.1, hz.2.1, hz.2.2.1, hqn, fun _ => by rw [ra_we_eq]; exact hz.2.2.2, trivial⟩
/-- a number of the row becomes another one -/
theorem zr_pi {S' : Nat → Nat} {x v : Nat} (h : zr_row (r.1 396) S B) (hx : x < 452) (hS : ∀ y, S' y = if y = x then v else S y) : zr_row ((rj_pi r 396 x (nI v)).1 396) S' B := by
  refine ⟨fun k hk => ?_, fun k h1 h2 => ?_, fun k hk => ?_, fun k h1 h2 => ?_⟩
  · rw [hS]
    by_cases e : k = x
    · rw [if_pos e, e, zm_pi_eq]
    · rw [if_neg e, zm_pi_ne2 e]
      exact h.1 k hk
  · rw [hS, if_neg (by omega), zm_pi_ne2 (by omega)]
    exact h.2.1 k h1 h2
  · rw [zm_pi_ne2 (by omega)]
    exact h.2.2.1 k hk
  · rw [hS, if_neg (by omega), zm_pi_ne2 (by omega)]
    exact h.2.2.2 k h1 h2
theorem zr_iff {S S' : Nat → Nat} {s : Nat → Int32} (h : zr_row s S B) (e : ∀ k, S' k = S k) : zr_row s S' B := by
  rw [show S' = S from funext e]
  exact h
/-- shifted by one, from one place up to another -/
def zb_sh (S : Nat → Nat) (b i k : Nat) : Nat → Nat := fun x => if 332 + 13 * b + i ≤ x ∧ x < 332 + 13 * b + k then S (x + 1) else S x
theorem zb_sh_ne {b i k x : Nat} (h : ¬ (332 + 13 * b + i ≤ x ∧ x < 332 + 13 * b + k)) : zb_sh S b i k x = S x := if_neg h
theorem zb_sh_in {b i k x : Nat} (h : 332 + 13 * b + i ≤ x ∧ x < 332 + 13 * b + k) : zb_sh S b i k x = S (x + 1) := if_pos h
theorem zq_takesOut (h : zr_row (r.1 396) S B) (hq : zr_line S q w) {b i : Nat} (hb : b < 3) (hi : i < (zb_L q w b).length) : zr_row ((mX12_takesOut r (nI b) (nI i)).1 396) (zb_outS S b i) B ∧ (∀ k, k ≠ 396 → (mX12_takesOut r (nI b) (nI i)).1 k = r.1 k) ∧ (mX12_takesOut r (nI b) (nI i)).2 = r.2 ∧ qX12_takesOut r (nI b) (nI i) := by
  have hl := zb_ln12 hq
  have hlb : (zb_L q w b).length ≤ 12 := Nat.le_trans zb_L_len hl
  have hSb : S (331 + 13 * b) = (zb_L q w b).length := (hq.2.2.2.2.1 b hb).1
  have e331 : (331 + (13 * nI b)).toNatClampNeg = 331 + 13 * b := pk_cl _ (by rw [show (331 : Int32) = nI 331 from rfl, show (13 : Int32) = nI 13 from rfl, pk_mul, nI_add]) (by omega)
  have e332 : ∀ k, k < 13 → ((331 + (13 * nI b)) + 1) + nI k = nI (332 + 13 * b + k) := fun k hk => by
    rw [show (331 : Int32) = nI 331 from rfl, show (13 : Int32) = nI 13 from rfl, pk_mul, nI_add, nI_1, nI_add]
    exact congrArg nI (by omega)
  have e370 : (370 + nI b).toNatClampNeg = 370 + b := pk_cl _ (by rw [show (370 : Int32) = nI 370 from rfl, nI_add]) (by omega)
  have e330 : (330 : Int32).toNatClampNeg = 330 := by decide
  -- the shift
  have key : ∀ n k mem, (zb_L q w b).length - 1 - k < n → i ≤ k → k ≤ (zb_L q w b).length - 1 → zr_row (mem.1 396) (zb_sh S b i k) B → (∀ k', k' ≠ 396 → mem.1 k' = r.1 k') → mem.2 = r.2 → ∃ out, (rj_we (bX12_takesOut_2 r (nI b) (nI i)) n (nI k, mem)).2 = out ∧ zr_row (out.1 396) (zb_sh S b i ((zb_L q w b).length - 1)) B ∧ (∀ k', k' ≠ 396 → out.1 k' = r.1 k') ∧ out.2 = r.2 ∧ rq_we (qX12_takesOut_2 r (nI b) (nI i)) (bX12_takesOut_2 r (nI b) (nI i)) n (nI k, mem) := fun n => by
    induction n with
    | zero => exact fun k mem hn => absurd hn (Nat.not_lt_zero _)
    | succ n ih =>
      intro k mem hn hik hk hrow hfr hm2
      have hlo : fX12_lineOf mem (nI b) = nI (zb_L q w b).length := by
        unfold fX12_lineOf
        rw [e331, hrow.1 _ (by omega), zb_sh_ne (by omega), hSb]
      have hcmp : fX12_lineOf mem (nI b) - 1 = nI ((zb_L q w b).length - 1) := by rw [hlo, zb_pred (by omega)]
      by_cases c : (zb_L q w b).length - 1 ≤ k
      · have hke : k = (zb_L q w b).length - 1 := by omega
        have hc : fX12_lineOf mem (nI b) - 1 ≤ nI k := by rw [hcmp]; exact nI_le c (by omega)
        have e : bX12_takesOut_2 r (nI b) (nI i) (nI k, mem) = .inr (nI k, mem) := if_pos hc
        refine ⟨mem, by rw [rj_we_r e], by rw [← hke]; exact hrow, hfr, hm2, ⟨fun _ => trivial, fun z => absurd hc z⟩, ?_⟩
        rw [e]
        trivial
      · have hc : ¬ fX12_lineOf mem (nI b) - 1 ≤ nI k := by rw [hcmp]; exact nI_ge (by omega) (by omega)
        have hin : fX12_inLine mem (nI b) (nI k + 1) = nI (S (332 + 13 * b + k + 1)) := by
          unfold fX12_inLine
          rw [nI_1, e332 (k + 1) (by omega), nI_clamp (by omega), hrow.1 _ (by omega), zb_sh_ne (by omega)]
          rfl
        have e : bX12_takesOut_2 r (nI b) (nI i) (nI k, mem) = .inl (nI (k + 1), rj_pi mem 396 (332 + 13 * b + k) (nI (S (332 + 13 * b + k + 1)))) := by
          unfold bX12_takesOut_2
          rw [if_neg hc]
          show Sum.inl (nI k + 1, rj_pi mem 396 (((331 + (13 * nI b)) + 1) + nI k).toNatClampNeg (fX12_inLine mem (nI b) (nI k + 1))) = _
          rw [hin, nI_1, e332 k (by omega), nI_clamp (by omega)]
        obtain ⟨out, o1, o2, o3, o4, o5⟩ := ih (k + 1) (rj_pi mem 396 (332 + 13 * b + k) (nI (S (332 + 13 * b + k + 1)))) (by omega) (by omega) (by omega) (zr_pi hrow (by omega) (fun y => by
          by_cases ey : y = 332 + 13 * b + k
          · rw [if_pos ey, zb_sh_in ⟨by omega, by omega⟩, ey]
          · rw [if_neg ey]
            by_cases c2 : 332 + 13 * b + i ≤ y ∧ y < 332 + 13 * b + k
            · rw [zb_sh_in c2, zb_sh_in ⟨c2.1, by omega⟩]
            · rw [zb_sh_ne c2, zb_sh_ne (by omega)])) (fun k' hk' => (zm_pi_ne hk').trans (hfr k' hk')) hm2
        refine ⟨out, by rw [rj_we_l e]; exact o1, o2, o3, o4, ⟨fun z => absurd z hc, fun _ => ⟨?_, ?_, trivial⟩⟩, ?_⟩
        · show vp_in (nI k + 1) 12
          rw [nI_1]
          exact vp_in_nI (by omega) (by decide)
        · show vp_in (((331 + (13 * nI b)) + 1) + nI k) 625
          rw [e332 k (by omega)]
          exact vp_in_nI (by omega) (by decide)
        · rw [e]
          exact o5
  obtain ⟨out, o1, o2, o3, o4, o5⟩ := key 14 i r (by omega) (Nat.le_refl _) (by omega) (zr_iff h (fun x => zb_sh_ne (by omega))) (fun _ _ => rfl) rfl
  have hcnt : out.1 396 (331 + 13 * b) - 1 = nI ((zb_L q w b).length - 1) := by
    rw [o2.1 _ (by omega), zb_sh_ne (by omega), hSb, zb_pred (by omega)]
  unfold mX12_takesOut qX12_takesOut
  rw [o1, e331, hcnt, e370, e330]
  have hrow1 := zr_pi (S' := fun y => if y = 331 + 13 * b then (zb_L q w b).length - 1 else zb_sh S b i ((zb_L q w b).length - 1) y) (x := 331 + 13 * b) (v := (zb_L q w b).length - 1) o2 (by omega) (fun y => rfl)
  have hq' : (True → ra_we (qX12_takesOut_2 r (nI b) (nI i)) (bX12_takesOut_2 r (nI b) (nI i)) 14 (nI i, r)) ∧ True := ⟨fun _ => by rw [ra_we_eq]; exact o5, trivial⟩
  by_cases c : i = 0
  · rw [if_pos (show nI i = 0 by rw [c]; rfl)]
    have h330 : (rj_pi out 396 (331 + 13 * b) (nI ((zb_L q w b).length - 1))).1 396 330 = nI (S 330) := by
      exact (hrow1.1 330 (by decide)).trans (congrArg nI ((if_neg (by omega)).trans (zb_sh_ne (by omega))))
    rw [h330]
    refine ⟨zr_pi hrow1 (by omega) (fun y => ?_), fun k hk => ?_, o4, hq'⟩
    · unfold zb_outS
      rw [hSb]
      by_cases e1 : y = 331 + 13 * b
      · rw [if_pos e1, if_neg (by omega), if_pos e1, e1, hSb]
      · rw [if_neg e1, if_neg e1]
        by_cases e2 : y = 370 + b
        · rw [if_neg (by omega), if_pos ⟨e2, c⟩, if_pos e2]
        · rw [if_neg e2]
          by_cases e3 : 332 + 13 * b + i ≤ y ∧ y + 1 < 332 + 13 * b + (zb_L q w b).length
          · rw [if_pos e3, zb_sh_in ⟨e3.1, by omega⟩]
          · rw [if_neg e3, if_neg (fun z => e2 z.1), zb_sh_ne (by omega)]
    · rw [zm_pi_ne hk, zm_pi_ne hk]
      exact o3 k hk
  · rw [if_neg (nI_ne0 (by omega) (by omega))]
    refine ⟨zr_iff hrow1 (fun y => ?_), fun k hk => ?_, o4, hq'⟩
    · unfold zb_outS
      rw [hSb]
      by_cases e1 : y = 331 + 13 * b
      · rw [if_pos e1, if_pos e1, e1, hSb]
      · rw [if_neg e1, if_neg e1]
        by_cases e3 : 332 + 13 * b + i ≤ y ∧ y + 1 < 332 + 13 * b + (zb_L q w b).length
        · rw [if_pos e3, zb_sh_in ⟨e3.1, by omega⟩]
        · rw [if_neg e3, if_neg (fun z => c z.2), zb_sh_ne (by omega)]
    · rw [zm_pi_ne hk]
      exact o3 k hk
end zqOne2
