/-! BARS: a minute that passes, both sides at once -/
def zb_sv (S : Nat → Nat) (n : Nat) : Nat → Nat := fun k => if k = 386 then S 386 + n else S k
theorem zb_sv_ne {S : Nat → Nat} {n k : Nat} (h : k ≠ 386) : zb_sv S n k = S k := if_neg h
theorem zb_sv_at {S : Nat → Nat} {n : Nat} : zb_sv S n 386 = S 386 + n := if_pos rfl
/-- both sides in the midst of a passing of minutes: n were served -/
def zb_mid (c r : rj_M) (c0 r0 : rj_M) (S0 : Nat → Nat) (B : Nat → Int) (n : Nat) : Prop := ∃ (S : Nat → Nat) (q : List Nat) (w : Nat → Nat), zr_line S q w ∧ zb_c c (zb_sv S n) q w ∧ zr_row (r.1 396) S B ∧ (∀ k, k < 331 ∨ 373 ≤ k → S k = S0 k) ∧ (∀ k, k < 3 → S (370 + k) ≤ 10) ∧ (∀ b, b < 3 → 0 < S (331 + 13 * b) → 0 < S (370 + b)) ∧ (∀ k, k ≠ 21 → k ≠ 22 → k ≠ 23 → k ≠ 24 → c.1 k = c0.1 k) ∧ c.2 = c0.2 ∧ (∀ k, k ≠ 396 → r.1 k = r0.1 k) ∧ r.2 = r0.2
def zb_dc (S : Nat → Nat) (b : Nat) : Nat → Nat := fun y => if y = 370 + b then S (370 + b) - 1 else S y
theorem zb_dc_ne {S : Nat → Nat} {b y : Nat} (h : y ≠ 370 + b) : zb_dc S b y = S y := if_neg h
theorem zb_dc_at {S : Nat → Nat} {b : Nat} : zb_dc S b (370 + b) = S (370 + b) - 1 := if_pos rfl
theorem zb_tick {c r c0 r0 : rj_M} {S0 : Nat → Nat} {B : Nat → Int} {n b : Nat} {a : Int32} {k : Nat} {mu : rj_M} (h0 : 1 ≤ S0 330 ∧ S0 330 ≤ 10) (hb : b < 3) (hkb : (nI k) - (nI k) / 3 * 3 = nI b) (h : zb_mid c r c0 r0 S0 B n) : ∃ d, d ≤ 1 ∧ qX12_pass_24 mu a k (nI n, r) ∧ (bX12_pass_24 mu a k (nI n, r)).1 = nI (n + d) ∧ zb_mid (bX0_passMinute_2 mu b c) (bX12_pass_24 mu a k (nI n, r)).2 c0 r0 S0 B (n + d) := by
  obtain ⟨S, q, w, hq, hc, hr, hS, hlo, hpos, hfc, hfc2, hfr, hfr2⟩ := h
  have hl := zb_ln12 hq
  have hlb : (zb_L q w b).length ≤ 12 := Nat.le_trans zb_L_len hl
  have hSb : S (331 + 13 * b) = (zb_L q w b).length := (hq.2.2.2.2.1 b hb).1
  have hqs : zr_line (zb_sv S n) q w := zr_line_congr hq (fun k h1 h2 => zb_sv_ne (by omega)) (fun k h1 h2 => zb_sv_ne (by omega))
  have e370 : (370 + nI b).toNatClampNeg = 370 + b := pk_cl _ (by rw [show (370 : Int32) = nI 370 from rfl, nI_add]) (by omega)
  have v370 : vp_in (370 + nI b) 625 := by
    rw [show (370 : Int32) = nI 370 from rfl, nI_add]
    exact vp_in_nI (by omega) (by decide)
  have hbd : ∀ k, (zb_L q w b).head? = some k → k < 2 ^ 31 := fun k hk => by
    have h5 : k ∈ zb_L q w b := List.mem_of_mem_head? hk
    have := (zb_wv hq (zb_L_mem.mp h5).1).1
    omega
  have hc24 : c.1 24 b = nI (S (370 + b)) := by
    rw [hc.2.2.2.1 b hb, zb_sv_ne (by omega)]
  have hr370 : r.1 396 (370 + b) = nI (S (370 + b)) := hr.1 _ (by omega)
  have hlob := hlo b hb
  unfold qX12_pass_24 bX12_pass_24 bX0_passMinute_2
  rw [hkb, e370]
  show ∃ d, d ≤ 1 ∧ (vp_in (nI b) 3 ∧ ((fX12_lineOf r (nI b) = 0 → True) ∧ (¬ fX12_lineOf r (nI b) = 0 → (vp_in (370 + nI b) 625 ∧ vp_in (370 + nI b) 625 ∧ vp_in (370 + nI b) 625 ∧ (((rj_pi r 396 (370 + b) (r.1 396 (370 + b) - 1)).1 396 (370 + b) ≤ 0 → (vp_in (nI b) 3 ∧ qX12_takesOut (rj_pi r 396 (370 + b) (r.1 396 (370 + b) - 1)) (nI b) 0 ∧ True)) ∧ (¬ (rj_pi r 396 (370 + b) (r.1 396 (370 + b) - 1)).1 396 (370 + b) ≤ 0 → True)))))) ∧ (if fX12_lineOf r (nI b) = 0 then (nI n, r) else (if (rj_pi r 396 (370 + b) (r.1 396 (370 + b) - 1)).1 396 (370 + b) ≤ 0 then (nI n + 1, mX12_takesOut (rj_pi r 396 (370 + b) (r.1 396 (370 + b) - 1)) (nI b) 0) else (nI n, rj_pi r 396 (370 + b) (r.1 396 (370 + b) - 1)))).1 = nI (n + d) ∧ zb_mid _ (if fX12_lineOf r (nI b) = 0 then (nI n, r) else (if (rj_pi r 396 (370 + b) (r.1 396 (370 + b) - 1)).1 396 (370 + b) ≤ 0 then (nI n + 1, mX12_takesOut (rj_pi r 396 (370 + b) (r.1 396 (370 + b) - 1)) (nI b) 0) else (nI n, rj_pi r 396 (370 + b) (r.1 396 (370 + b) - 1)))).2 c0 r0 S0 B (n + d)
  rw [zq_lineOf hr hq hb, zc_firstOf hc hqs hb, nI_clamp (n := b) (by omega), hc24, hr370]
  by_cases c1 : (zb_L q w b).length = 0
  · have hnil := List.eq_nil_of_length_eq_zero c1
    have c1' : nI (zb_L q w b).length = 0 := by rw [c1]; rfl
    rw [if_pos c1', hnil, if_pos (show zo_i ([] : List Nat).head? = -1 from rfl)]
    exact ⟨0, Nat.zero_le _, ⟨vp_in_nI hb (by decide), fun _ => trivial, fun z => absurd rfl z⟩, rfl, S, q, w, hq, hc, hr, hS, hlo, hpos, hfc, hfc2, hfr, hfr2⟩
  · have hp := hpos b hb (by omega)
    have hne : ¬ nI (zb_L q w b).length = 0 := nI_ne0 (by omega) (by omega)
    obtain ⟨v, hv0⟩ : ∃ v, (zb_L q w b)[0]? = some v := ⟨_, List.getElem?_eq_getElem (by omega)⟩
    have hvp := zb_pos hq hv0
    have hhead : (zb_L q w b).head? = some v := by rw [List.head?_eq_getElem?]; exact hv0
    rw [if_neg hne, hhead, if_neg (zo_not (k := v) (by omega)), zb_pred hp, zm_pi_eq, zm_pi_eq]
    -- the numbers behind the minute
    have hS1r : zr_row ((rj_pi r 396 (370 + b) (nI (S (370 + b) - 1))).1 396) (zb_dc S b) B := zr_pi hr (by omega) (fun y => rfl)
    have hq1 : zr_line (zb_dc S b) q w := zr_line_congr hq (fun k h1 h2 => zb_dc_ne (by omega)) (fun k h1 h2 => zb_dc_ne (by omega))
    have hc1 : zb_c (rj_pi c 24 b (nI (S (370 + b) - 1))) (zb_sv (zb_dc S b) n) q w := by
      refine ⟨?_, fun i hi => ?_, fun v hv => ?_, fun k hk => ?_, ?_, ?_⟩
      · rw [zm_pi_ne (by decide)]
        exact hc.1
      · rw [zm_pi_ne (by decide)]
        exact hc.2.1 i hi
      · rw [zm_pi_ne (by decide)]
        exact hc.2.2.1 v hv
      · rw [zb_sv_ne (by omega)]
        by_cases e : k = b
        · rw [e, zm_pi_eq, zb_dc_at]
        · rw [zm_pi_ne2 e, zb_dc_ne (by omega), hc.2.2.2.1 k hk, zb_sv_ne (by omega)]
      · rw [zm_pi_ne (by decide), zb_sv_ne (by decide), zb_dc_ne (by omega), hc.2.2.2.2.1, zb_sv_ne (by decide)]
      · rw [zm_pi_ne (by decide), hc.2.2.2.2.2]
        rw [zb_sv_at, zb_sv_at, zb_dc_ne (by omega)]
    by_cases c2 : S (370 + b) - 1 = 0
    · -- served
      have c2' : nI (S (370 + b) - 1) ≤ 0 := by rw [c2]; decide
      have c2'' : ¬ (0 : Int32) < nI (S (370 + b) - 1) := by rw [c2]; decide
      have hw0 : w v ≠ 0 := by omega
      have hi0 : (zb_L q w (w v - 1))[0]? = some v := by rw [hvp.2, Nat.add_sub_cancel]; exact hv0
      have hq1s : zr_line (zb_sv (zb_dc S b) n) q w := zr_line_congr hq1 (fun k h1 h2 => zb_sv_ne (by omega)) (fun k h1 h2 => zb_sv_ne (by omega))
      obtain ⟨t1, t2, t3⟩ := zc_takeOut hc1 hq1s hvp.1 hw0 hi0
      obtain ⟨u1, u2, u3, u4⟩ := zq_takesOut hS1r hq1 hb (i := 0) (by omega)
      rw [show nI 0 = (0 : Int32) from rfl] at u1 u2 u3 u4
      rw [hvp.2, Nat.add_sub_cancel] at t1
      rw [if_pos c2', if_neg c2'']
      have ho : ∀ k, k ≠ 331 + 13 * b → ¬ (332 + 13 * b + 0 ≤ k ∧ k + 1 < 332 + 13 * b + (zb_dc S b) (331 + 13 * b)) → k ≠ 370 + b → zb_outS (zb_dc S b) b 0 k = S k := fun k k1 k2 k3 => by
        unfold zb_outS
        rw [if_neg k1, if_neg k2, if_neg (fun z => k3 z.1), zb_dc_ne k3]
      have hlen1 : (zb_dc S b) (331 + 13 * b) = (zb_L q w b).length := (zb_dc_ne (by omega)).trans hSb
      rw [hlen1] at ho
      have ho370 : zb_outS (zb_dc S b) b 0 (370 + b) = S 330 := by
        unfold zb_outS
        rw [hlen1, if_neg (by omega), if_neg (by omega), if_pos ⟨rfl, rfl⟩, zb_dc_ne (by omega)]
      have ho331 : zb_outS (zb_dc S b) b 0 (331 + 13 * b) = (zb_L q w b).length - 1 := by
        unfold zb_outS
        rw [if_pos rfl, hlen1]
      have h330 := hS 330 (by omega)
      refine ⟨1, Nat.le_refl _, ⟨vp_in_nI hb (by decide), fun _ => trivial, fun _ => ⟨v370, v370, v370, fun _ => ⟨vp_in_nI hb (by decide), u4, trivial⟩, fun z => absurd c2' z⟩⟩, nI_1 n, zb_outS (zb_dc S b) b 0, q.filter (fun x => decide (x ≠ v)), zb_w w v 0, zb_out_line hq1 hb hv0, ?_, u1, fun k hk => ?_, fun k hk => ?_, fun b' hb' hp' => ?_, fun k k1 k2 k3 k4 => ?_, t3.trans hfc2, fun k hk => ?_, u3.trans hfr2⟩
      · -- the class's rows
        have hsv : ∀ k, k ≠ 386 → zb_outS (zb_sv (zb_dc S b) n) b 0 k = zb_outS (zb_dc S b) b 0 k := fun k hk => by
          unfold zb_outS
          rw [zb_sv_ne (n := n) (k := 331 + 13 * b) (by omega), zb_sv_ne (n := n) (k := 330) (by omega), zb_sv_ne (n := n) hk, hlen1]
          by_cases e1 : k = 331 + 13 * b
          · rw [if_pos e1, if_pos e1]
          · rw [if_neg e1, if_neg e1]
            by_cases e2 : 332 + 13 * b + 0 ≤ k ∧ k + 1 < 332 + 13 * b + (zb_L q w b).length
            · rw [if_pos e2, if_pos e2, zb_sv_ne (by omega)]
            · rw [if_neg e2, if_neg e2]
        have hserv : (mX0_takeOut (rj_pi c 24 b (nI (S (370 + b) - 1))) (nI v)).1 21 6 + 1 = nI (S 386 + (n + 1)) := by
          rw [t1.2.2.2.2.2]
          have : zb_outS (zb_sv (zb_dc S b) n) b 0 386 = S 386 + n := by
            unfold zb_outS
            rw [zb_sv_ne (n := n) (k := 331 + 13 * b) (by omega), hlen1, if_neg (by omega), if_neg (by omega), if_neg (by omega), zb_sv_at, zb_dc_ne (by omega)]
          rw [this, nI_1, Nat.add_assoc]
        rw [show zo_i (some v) = nI v from rfl, hserv]
        refine ⟨?_, fun i hi => ?_, fun x hx => ?_, fun k hk => ?_, ?_, ?_⟩
        · rw [zm_pi_ne2 (by decide)]
          exact t1.1
        · rw [zm_pi_ne (by decide)]
          exact t1.2.1 i hi
        · rw [zm_pi_ne (by decide)]
          exact t1.2.2.1 x hx
        · rw [zm_pi_ne (by decide), t1.2.2.2.1 k hk, hsv _ (by omega), zb_sv_ne (by omega)]
        · rw [zm_pi_ne2 (by decide), t1.2.2.2.2.1, hsv _ (by decide), zb_sv_ne (by decide)]
        · rw [zm_pi_eq, zb_sv_at, ho 386 (by omega) (by omega) (by omega)]
      · rw [ho k (by omega) (by omega) (by omega)]
        exact hS k hk
      · by_cases e : k = b
        · rw [e, ho370]
          omega
        · rw [ho _ (by omega) (by omega) (by omega)]
          exact hlo k hk
      · by_cases e : b' = b
        · rw [e, ho370]
          omega
        · rw [ho _ (by omega) (by omega) (by omega)] at hp' ⊢
          exact hpos b' hb' hp'
      · rw [show zo_i (some v) = nI v from rfl, zm_pi_ne k1, t2 k k1 k2 k3 k4, zm_pi_ne k4]
        exact hfc k k1 k2 k3 k4
      · show (mX12_takesOut (rj_pi r 396 (370 + b) (nI (S (370 + b) - 1))) (nI b) 0).1 k = r0.1 k
        rw [u2 k hk, zm_pi_ne hk]
        exact hfr k hk
    · have c2' : ¬ nI (S (370 + b) - 1) ≤ 0 := nI_nle (by omega) (by omega)
      have c2'' : (0 : Int32) < nI (S (370 + b) - 1) := nI_lt (a := 0) (by omega) (by omega)
      rw [if_neg c2', if_pos c2'']
      refine ⟨0, Nat.zero_le _, ⟨vp_in_nI hb (by decide), fun _ => trivial, fun _ => ⟨v370, v370, v370, fun z => absurd z c2', fun _ => trivial⟩⟩, rfl, _, q, w, hq1, hc1, hS1r, fun k hk => ?_, fun k hk => ?_, fun b' hb' hp' => ?_, fun k k1 k2 k3 k4 => (zm_pi_ne k4).trans (hfc k k1 k2 k3 k4), hfc2, fun k hk => (zm_pi_ne hk).trans (hfr k hk), hfr2⟩
      · rw [← hS k hk]
        exact zb_dc_ne (by omega)
      · show (if 370 + k = 370 + b then S (370 + b) - 1 else S (370 + k)) ≤ 10
        have := hlo k hk
        split <;> omega
      · show 0 < (if 370 + b' = 370 + b then S (370 + b) - 1 else S (370 + b'))
        have hp'' : 0 < S (331 + 13 * b') := by
          have h9 : (zb_dc S b) (331 + 13 * b') = S (331 + 13 * b') := zb_dc_ne (by omega)
          rw [← h9]
          exact hp'
        have := hpos b' hb' hp''
        split <;> omega
