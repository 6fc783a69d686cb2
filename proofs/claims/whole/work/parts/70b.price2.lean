/-! PRICES, the reference's side -/
theorem zq_reached {r : rj_M} {S : Nat → Nat} {B : Nat → Int} (h : zr_row (r.1 396) S B) (ok : zo_prog S) (og : zo_grnd S) {x k : Nat} (hx : x < 16) (hk : k < 16) : (ze_end S k + zk_fw (zk_w S) (ze_st S k) (ze_st S x) ≤ ze_B S x ∧ fX12_isReached r (nI x) (nI k) = 1) ∨ (¬ ze_end S k + zk_fw (zk_w S) (ze_st S k) (ze_st S x) ≤ ze_B S x ∧ fX12_isReached r (nI x) (nI k) = 0) := by
  obtain ⟨-, k1, k2, k3, -⟩ := ok.1 k hk
  obtain ⟨-, x1, x2, -⟩ := ok.1 x hx
  have hw := zk_fw60 og k1 x1
  unfold fX12_isReached
  rw [zq_begin h hx, zq_end h hk, zq_stage h hk, zq_stage h hx, (zq_walkOf h og k1 x1).1, nI_add]
  by_cases f : S (25 + 6 * k) + S (26 + 6 * k) + zk_fw (zk_w S) (S (24 + 6 * k)) (S (24 + 6 * x)) ≤ S (25 + 6 * x)
  · rw [if_neg (nI_nlt f (by omega))]
    exact .inl ⟨f, rfl⟩
  · rw [if_pos (nI_lt (Nat.lt_of_not_le f) (by omega))]
    exact .inr ⟨f, rfl⟩
theorem zq_reachedq {r : rj_M} {S : Nat → Nat} {B : Nat → Int} (h : zr_row (r.1 396) S B) (ok : zo_prog S) (og : zo_grnd S) {x k : Nat} (hx : x < 16) (hk : k < 16) : qX12_isReached r (nI x) (nI k) := by
  obtain ⟨-, k1, -⟩ := ok.1 k hk
  obtain ⟨-, x1, -⟩ := ok.1 x hx
  unfold qX12_isReached
  rw [zq_stage h hk, zq_stage h hx]
  exact ⟨vp_in_nI k1 (by decide), vp_in_nI x1 (by decide), (zq_walkOf h og k1 x1).2, trivial⟩
/-- the right prices on a day -/
noncomputable def ze_Q (S P : Nat → Nat) (d k : Nat) : Nat := if zz (zp_has S k ∧ ze_day S k = d) = true then P k else 0
theorem ze_Q_pos {S P : Nat → Nat} {d k : Nat} (h : 0 < ze_Q S P d k) : zp_has S k ∧ ze_day S k = d ∧ ze_Q S P d k = P k := by
  unfold ze_Q at *
  by_cases c : zz (zp_has S k ∧ ze_day S k = d) = true
  · rw [if_pos c]
    exact ⟨(zz_t.mp c).1, (zz_t.mp c).2, rfl⟩
  · rw [if_neg c] at h
    exact absurd h (Nat.lt_irrefl _)
theorem ze_Q_of {S P : Nat → Nat} {d k : Nat} (h : zp_has S k) (hd : ze_day S k = d) : ze_Q S P d k = P k := by
  unfold ze_Q
  rw [if_pos (zz_t.mpr ⟨h, hd⟩)]
theorem zq_wished {r : rj_M} {S : Nat → Nat} {B : Nat → Int} (h : zr_row (r.1 396) S B) (ok : zo_prog S) {v d k : Nat} (hv : v < 12) (hd : d < 4) (hk : k < 16) : ((zp_has S k ∧ ze_day S k = d ∧ 0 < ze_W S v k) ∧ fX12_isWished r (nI v) (nI d) (nI k) = 1) ∨ (¬ (zp_has S k ∧ ze_day S k = d ∧ 0 < ze_W S v k) ∧ fX12_isWished r (nI v) (nI d) (nI k) = 0) := by
  obtain ⟨-, -, k2, -⟩ := ok.1 k hk
  have hw9 := ze_W9 ok hv k
  have hW : fX12_wishOf r (nI v) (nI k) = nI (ze_W S v k) := by
    rw [zq_wish h hv hk]
    unfold ze_W
    rw [if_pos hk]
  have hday : nI (S (25 + 6 * k)) / 1440 = nI (ze_day S k) := pk_div (a := S (25 + 6 * k)) (d := 1440) (by omega) (by decide) (by decide)
  unfold fX12_isWished
  rw [zq_begin h hk, hW, hday]
  rcases zq_isAct h ok hk with ⟨e, e2⟩ | ⟨e, e2⟩
  · rw [e2, if_neg (by decide)]
    have hdb : ze_day S k < 4 := by
      unfold ze_day
      omega
    by_cases c : ze_day S k = d
    · rw [if_pos (congrArg nI c)]
      by_cases w : 0 < ze_W S v k
      · rw [if_neg (nI_nle w (by omega))]
        exact .inl ⟨⟨e, c, w⟩, rfl⟩
      · rw [show ze_W S v k = 0 by omega, if_pos (show nI 0 ≤ 0 by decide)]
        exact .inr ⟨fun z => w (by omega), rfl⟩
    · rw [if_neg (fun z => c ((nI_eq (by omega) (by omega)).mp z))]
      exact .inr ⟨fun z => c z.2.1, rfl⟩
  · rw [e2, if_pos rfl]
    exact .inr ⟨fun z => e z.1, rfl⟩
theorem ze_cntr {S : Nat → Nat} (ok : zo_prog S) {x k : Nat} (hx : x < 16) (hk : k < 16) (h : ze_rc S x k) : zc_n (fun y => decide (ze_B S x < ze_B S y)) 16 < zc_n (fun y => decide (ze_B S k < ze_B S y)) 16 := zv_cnt_lt hx (ze_rB ok hk h)
set_option maxRecDepth 100000 in
/-- what the reference's rounds leave -/
theorem zq_prices {r : rj_M} {S P : Nat → Nat} {B : Nat → Int} (h : zr_row (r.1 396) S B) (ok : zo_prog S) (og : zo_grnd S) {v d : Nat} (hv : v < 12) (hd : d < 4) (hE : ∀ k, k < 16 → zv_E (ze_W S v) (ze_rc S) P k) (hPb : ∀ k, k < 16 → P k + 9 * ze_B S k ≤ 51840) : (∀ k, k < 16 → (mX12_findsPrices r (nI v) (nI d)).1 406 k = nI (ze_Q S P d k)) ∧ (∀ k, k ≠ 406 → (mX12_findsPrices r (nI v) (nI d)).1 k = r.1 k) ∧ (mX12_findsPrices r (nI v) (nI d)).2 = r.2 ∧ qX12_findsPrices r (nI v) (nI d) := by
  have hW9 := ze_W9 ok hv
  -- what is right of a price
  have hQW : ∀ k, k < 16 → 0 < ze_Q S P d k → 0 < ze_W S v k ∧ ze_W S v k ≤ ze_Q S P d k := fun k hk hq => by
    obtain ⟨q1, q2, q3⟩ := ze_Q_pos hq
    rcases hE k hk with ⟨e1, e2⟩ | ⟨e1, D, e2, -⟩
    · omega
    · omega
  have hQb : ∀ k, k < 16 → ze_Q S P d k ≤ 51840 := fun k hk => by
    have := hPb k hk
    unfold ze_Q
    split <;> omega
  have hup : ∀ k x, k < 16 → x < 16 → 0 < ze_Q S P d k → 0 < ze_Q S P d x → ze_end S k + zk_fw (zk_w S) (ze_st S k) (ze_st S x) ≤ ze_B S x → ze_W S v k + ze_Q S P d x ≤ ze_Q S P d k := fun k x hk hx hqk hqx hr => by
    obtain ⟨k1, k2, k3⟩ := ze_Q_pos hqk
    obtain ⟨x1, x2, x3⟩ := ze_Q_pos hqx
    have hrc : ze_rc S x k := ⟨x1, k1, x2.trans k2.symm, hr⟩
    rcases hE k hk with ⟨e1, e2⟩ | ⟨e1, D, e2, e3, -⟩
    · omega
    · have := e3 x hx hrc
      omega
  -- the first prices
  have hfirst := zf_inv (f := bX12_findsPrices_2 r (nI v) (nI d)) (fun j s => (∀ k, k ≠ 406 → s.1 k = r.1 k) ∧ s.2 = r.2 ∧ ∀ k, k < j → s.1 406 k = nI (if 0 < ze_Q S P d k then ze_W S v k else 0)) 16 0 r ⟨fun _ _ => rfl, rfl, fun k hk => absurd hk (Nat.not_lt_zero _)⟩ (fun j s _ hj ⟨s1, s2, s3⟩ => by
    have hj16 : j < 16 := by omega
    have hrow : zr_row (s.1 396) S B := by rw [s1 396 (by decide)]; exact h
    have hval : (if fX12_isWished s (nI v) (nI d) (nI j) = 0 then rj_pi s 406 (nI j).toNatClampNeg 0 else rj_pi s 406 (nI j).toNatClampNeg (fX12_wishOf s (nI v) (nI j))) = rj_pi s 406 j (nI (if 0 < ze_Q S P d j then ze_W S v j else 0)) := by
      have hW : fX12_wishOf s (nI v) (nI j) = nI (ze_W S v j) := by
        rw [zq_wish hrow hv hj16]
        unfold ze_W
        rw [if_pos hj16]
      rw [nI_clamp (n := j) (by omega), hW]
      rcases zq_wished hrow ok hv hd hj16 with ⟨⟨e1, e2, e3⟩, e4⟩ | ⟨e1, e4⟩
      · rw [e4, if_neg (by decide)]
        have hq : 0 < ze_Q S P d j := by
          rw [ze_Q_of e1 e2]
          rcases hE j hj16 with ⟨z1, z2⟩ | ⟨z1, D, z2, -⟩ <;> omega
        rw [if_pos hq]
      · rw [e4, if_pos rfl]
        by_cases hq : 0 < ze_Q S P d j
        · obtain ⟨q1, q2, -⟩ := ze_Q_pos hq
          exact absurd ⟨q1, q2, (hQW j hj16 hq).1⟩ e1
        · rw [if_neg hq]
          rfl
    unfold bX12_findsPrices_2
    rw [hval]
    refine ⟨fun k hk => (zm_pi_ne hk).trans (s1 k hk), s2, fun k hk => ?_⟩
    by_cases e : k = j
    · rw [e, zm_pi_eq]
    · rw [zm_pi_ne2 e]
      exact s3 k (by omega))
  obtain ⟨g1, g2, g3⟩ := hfirst
  -- what holds all the while
  let V : rj_M → (Nat → Nat) → Prop := fun s A => (∀ k, k ≠ 406 → s.1 k = r.1 k) ∧ s.2 = r.2 ∧ (∀ k, k < 16 → s.1 406 k = nI (A k)) ∧ (∀ k, k < 16 → A k ≤ ze_Q S P d k) ∧ (∀ k, k < 16 → 0 < ze_Q S P d k → ze_W S v k ≤ A k)
  -- one comparison
  have step : ∀ (t0 : Nat) (s0 : rj_M) (k0 : Nat) (s1 : rj_M) (x : Nat) (s : rj_M) (A : Nat → Nat), k0 < 16 → x < 16 → V s A → qX12_findsPrices_61 r (nI v) (nI d) t0 s0 k0 s1 x s ∧ ∃ A', V (bX12_findsPrices_61 r (nI v) (nI d) t0 s0 k0 s1 x s) A' ∧ (∀ k, k < 16 → A k ≤ A' k) ∧ (ze_end S k0 + zk_fw (zk_w S) (ze_st S k0) (ze_st S x) ≤ ze_B S x → 0 < A k0 → 0 < A x → ze_W S v k0 + A x ≤ A' k0) := fun t0 s0 k0 s1 x s A hk hx ⟨v1, v2, v3, v4, v5⟩ => by
    have hrow : zr_row (s.1 396) S B := by rw [v1 396 (by decide)]; exact h
    have a1 := v4 k0 hk
    have a2 := v4 x hx
    have b1 := hQb k0 hk
    have b2 := hQb x hx
    have b3 := hW9 k0
    have hW : fX12_wishOf s (nI v) (nI k0) = nI (ze_W S v k0) := by
      rw [zq_wish hrow hv hk]
      unfold ze_W
      rw [if_pos hk]
    unfold qX12_findsPrices_61 bX12_findsPrices_61
    rw [nI_clamp (n := k0) (by omega), nI_clamp (n := x) (by omega), v3 k0 hk, v3 x hx, hW, nI_add]
    by_cases c1 : A k0 = 0
    · have c1' : nI (A k0) ≤ 0 := by rw [c1]; decide
      rw [if_pos c1']
      exact ⟨⟨fun _ => trivial, fun z => absurd c1' z⟩, A, ⟨v1, v2, v3, v4, v5⟩, fun _ _ => Nat.le_refl _, fun _ z => by omega⟩
    · have c1' : ¬ nI (A k0) ≤ 0 := nI_nle (by omega) (by omega)
      rw [if_neg c1']
      by_cases c2 : A x = 0
      · have c2' : nI (A x) ≤ 0 := by rw [c2]; decide
        rw [if_pos c2']
        exact ⟨⟨fun z => absurd z c1', fun _ => ⟨fun _ => trivial, fun z => absurd c2' z⟩⟩, A, ⟨v1, v2, v3, v4, v5⟩, fun _ _ => Nat.le_refl _, fun _ _ z => by omega⟩
      · have c2' : ¬ nI (A x) ≤ 0 := nI_nle (by omega) (by omega)
        have hqr := zq_reachedq hrow ok og hx hk
        rw [if_neg c2']
        refine ⟨⟨fun z => absurd z c1', fun _ => ⟨fun z => absurd z c2', fun _ => ⟨hqr, trivial⟩⟩⟩, ?_⟩
        rcases zq_reached hrow ok og hx hk with ⟨e1, e2⟩ | ⟨e1, e2⟩
        · rw [e2, if_neg (by decide)]
          have hu := hup k0 x hk hx (by omega) (by omega) e1
          have hv2 : (if nI (A k0) < nI (ze_W S v k0 + A x) then nI (ze_W S v k0 + A x) else nI (A k0)) = nI (max (A k0) (ze_W S v k0 + A x)) := by
            by_cases c : A k0 < ze_W S v k0 + A x
            · rw [if_pos (nI_lt c (by omega))]
              exact congrArg nI (by omega)
            · rw [if_neg (nI_nlt (Nat.le_of_not_lt c) (by omega))]
              exact congrArg nI (by omega)
          rw [hv2]
          obtain ⟨A', m1, m2⟩ : ∃ A' : Nat → Nat, A' k0 = max (A k0) (ze_W S v k0 + A x) ∧ ∀ k, k ≠ k0 → A' k = A k := ⟨fun k => if k = k0 then max (A k0) (ze_W S v k0 + A x) else A k, if_pos rfl, fun k hk => if_neg hk⟩
          refine ⟨A', ⟨fun k hk' => (zm_pi_ne hk').trans (v1 k hk'), v2, fun k hk' => ?_, fun k hk' => ?_, fun k hk' hq => ?_⟩, fun k hk' => ?_, fun _ _ _ => ?_⟩
          · by_cases e : k = k0
            · rw [e, zm_pi_eq, m1]
            · rw [zm_pi_ne2 e, m2 k e]
              exact v3 k hk'
          · by_cases e : k = k0
            · rw [e, m1]
              omega
            · rw [m2 k e]
              exact v4 k hk'
          · by_cases e : k = k0
            · rw [e] at hq ⊢
              have := v5 k0 hk hq
              rw [m1]
              omega
            · rw [m2 k e]
              exact v5 k hk' hq
          · by_cases e : k = k0
            · rw [e, m1]
              omega
            · rw [m2 k e]
              exact Nat.le_refl _
          · rw [m1]
            omega
        · rw [e2, if_pos rfl]
          exact ⟨A, ⟨v1, v2, v3, v4, v5⟩, fun _ _ => Nat.le_refl _, fun z => absurd z e1⟩
  -- all acts behind one
  have inner : ∀ (t t0 : Nat) (s0 : rj_M) (k0 : Nat) (s : rj_M) (A : Nat → Nat), k0 < 16 → V s A → zv_T (ze_B S) (ze_Q S P d) t A → (∃ A', V (bX12_findsPrices_51 r (nI v) (nI d) t0 s0 k0 s) A' ∧ (∀ k, k < 16 → A k ≤ A' k) ∧ (zc_n (fun y => decide (ze_B S k0 < ze_B S y)) 16 < t + 1 → A' k0 = ze_Q S P d k0)) ∧ rq_fo (qX12_findsPrices_61 r (nI v) (nI d) t0 s0 k0 s) (bX12_findsPrices_61 r (nI v) (nI d) t0 s0 k0 s) 16 0 s := fun t t0 s0 k0 s A hk hV hT => by
    refine ⟨?_, zf_q (fun _ s => ∃ A, V s A) 16 0 s ⟨A, hV⟩ (fun x u _ hx ⟨A1, hA1⟩ => by
      obtain ⟨q1, A2, q2, -, -⟩ := step t0 s0 k0 s x u A1 hk (by omega) hA1
      exact ⟨q1, A2, q2⟩)⟩
    unfold bX12_findsPrices_51
    have hz := zf_inv (f := bX12_findsPrices_61 r (nI v) (nI d) t0 s0 k0 s) (fun n u => ∃ A', V u A' ∧ (∀ k, k < 16 → A k ≤ A' k) ∧ ∀ x, x < n → ze_end S k0 + zk_fw (zk_w S) (ze_st S k0) (ze_st S x) ≤ ze_B S x → 0 < A k0 → 0 < A x → ze_W S v k0 + A x ≤ A' k0) 16 0 s ⟨A, hV, fun _ _ => Nat.le_refl _, fun x hx => absurd hx (Nat.not_lt_zero _)⟩ (fun n u _ hn ⟨A1, w1, w2, w3⟩ => by
      obtain ⟨-, A2, q2, q3, q4⟩ := step t0 s0 k0 s n u A1 hk (by omega) w1
      refine ⟨A2, q2, fun k hk' => Nat.le_trans (w2 k hk') (q3 k hk'), fun x hx a1 a2 a3 => ?_⟩
      by_cases e : x = n
      · subst e
        have h1 := w2 k0 hk
        have h2 := w2 x (by omega)
        have h3 := q4 a1 (by omega) (by omega)
        omega
      · have h1 := w3 x (by omega) a1 a2 a3
        have h2 := q3 k0 hk
        omega)
    obtain ⟨A', w1, w2, w3⟩ := hz
    refine ⟨A', w1, w2, fun hc => ?_⟩
    have hle := w1.2.2.2.1 k0 hk
    refine Nat.le_antisymm hle ?_
    by_cases hq : 0 < ze_Q S P d k0
    · obtain ⟨k1, k2, k3⟩ := ze_Q_pos hq
      have hWk := w1.2.2.2.2 k0 hk hq
      have hW0 := hV.2.2.2.2 k0 hk hq
      have hWp := (hQW k0 hk hq).1
      rcases hE k0 hk with ⟨e1, e2⟩ | ⟨e1, D, e2, e3, e4⟩
      · omega
      · rcases e4 with z | ⟨x, x1, x2, x3⟩
        · omega
        · by_cases hD : D = 0
          · omega
          · have hqx : ze_Q S P d x = P x := ze_Q_of x2.1 (x2.2.2.1.trans k2)
            have hcx := ze_cntr ok x1 hk x2
            have hAx := hT x x1 (by omega)
            have h3 := w3 x (by omega) x2.2.2.2 (by omega) (by omega)
            omega
    · omega
  -- one round
  have round : ∀ (t t0 : Nat) (s : rj_M) (A : Nat → Nat), V s A → zv_T (ze_B S) (ze_Q S P d) t A → (∃ A', V (bX12_findsPrices_42 r (nI v) (nI d) t0 s) A' ∧ zv_T (ze_B S) (ze_Q S P d) (t + 1) A') ∧ qX12_findsPrices_42 r (nI v) (nI d) t0 s := fun t t0 s A hV hT => by
    have hT' : ∀ A1 : Nat → Nat, (∀ k, k < 16 → A k ≤ A1 k) → (∀ k, k < 16 → A1 k ≤ ze_Q S P d k) → zv_T (ze_B S) (ze_Q S P d) t A1 := fun A1 m1 m2 k hk hc => by
      have h1 := hT k hk hc
      have h2 := m1 k hk
      have h3 := m2 k hk
      omega
    have hJ : ∀ k0 u, 0 ≤ k0 → k0 < 0 + 16 → (∃ A1, V u A1 ∧ (∀ k, k < 16 → A k ≤ A1 k) ∧ ∀ k, k < k0 → zc_n (fun y => decide (ze_B S k < ze_B S y)) 16 < t + 1 → A1 k = ze_Q S P d k) → qX12_findsPrices_51 r (nI v) (nI d) t0 s k0 u ∧ ∃ A1, V (bX12_findsPrices_51 r (nI v) (nI d) t0 s k0 u) A1 ∧ (∀ k, k < 16 → A k ≤ A1 k) ∧ ∀ k, k < k0 + 1 → zc_n (fun y => decide (ze_B S k < ze_B S y)) 16 < t + 1 → A1 k = ze_Q S P d k := fun k0 u _ hk0 ⟨A1, w1, w2, w3⟩ => by
      obtain ⟨⟨A2, q1, q2, q3⟩, q4⟩ := inner t t0 s k0 u A1 (by omega) w1 (hT' A1 w2 w1.2.2.2.1)
      refine ⟨⟨fun _ => ra_fo_i q4, trivial⟩, A2, q1, fun k hk => Nat.le_trans (w2 k hk) (q2 k hk), fun k hk hc => ?_⟩
      by_cases e : k = k0
      · subst e
        exact q3 hc
      · have h1 := w3 k (by omega) hc
        have h2 := q2 k (by omega)
        have h3 := q1.2.2.2.1 k (by omega)
        omega
    have hz := zf_inv (f := bX12_findsPrices_51 r (nI v) (nI d) t0 s) (fun k0 u => ∃ A1, V u A1 ∧ (∀ k, k < 16 → A k ≤ A1 k) ∧ ∀ k, k < k0 → zc_n (fun y => decide (ze_B S k < ze_B S y)) 16 < t + 1 → A1 k = ze_Q S P d k) 16 0 s ⟨A, hV, fun _ _ => Nat.le_refl _, fun k hk => absurd hk (Nat.not_lt_zero _)⟩ (fun k0 u a1 a2 hu => (hJ k0 u a1 a2 hu).2)
    obtain ⟨A1, w1, -, w3⟩ := hz
    unfold bX12_findsPrices_42 qX12_findsPrices_42
    refine ⟨⟨A1, w1, fun k hk hc => w3 k (by omega) hc⟩, fun _ => ra_fo_i ?_, trivial⟩
    exact zf_q (fun k0 u => ∃ A1, V u A1 ∧ (∀ k, k < 16 → A k ≤ A1 k) ∧ ∀ k, k < k0 → zc_n (fun y => decide (ze_B S k < ze_B S y)) 16 < t + 1 → A1 k = ze_Q S P d k) 16 0 s ⟨A, hV, fun _ _ => Nat.le_refl _, fun k hk => absurd hk (Nat.not_lt_zero _)⟩ (fun k0 u a1 a2 hu => hJ k0 u a1 a2 hu)
  have h0 : V (rj_fo (bX12_findsPrices_2 r (nI v) (nI d)) 16 0 r) (fun k => if 0 < ze_Q S P d k then ze_W S v k else 0) := ⟨g1, g2, fun k hk => g3 k (by omega), fun k hk => by
    show (if 0 < ze_Q S P d k then ze_W S v k else 0) ≤ _
    by_cases hq : 0 < ze_Q S P d k
    · rw [if_pos hq]
      exact (hQW k hk hq).2
    · rw [if_neg hq]
      exact Nat.zero_le _, fun k hk hq => by
    show _ ≤ (if 0 < ze_Q S P d k then ze_W S v k else 0)
    rw [if_pos hq]
    exact Nat.le_refl _⟩
  have hT0 : zv_T (ze_B S) (ze_Q S P d) 0 (fun k => if 0 < ze_Q S P d k then ze_W S v k else 0) := fun k _ hc => absurd hc (Nat.not_lt_zero _)
  unfold mX12_findsPrices qX12_findsPrices
  have hz := zf_inv (f := bX12_findsPrices_42 r (nI v) (nI d)) (fun t s => ∃ A, V s A ∧ zv_T (ze_B S) (ze_Q S P d) t A) 16 0 _ ⟨_, h0, hT0⟩ (fun t s _ _ ⟨A, a1, a2⟩ => (round t t s A a1 a2).1)
  obtain ⟨A, a1, a2⟩ := hz
  refine ⟨fun k hk => ?_, a1.1, a1.2.1, fun _ => ra_fo_i ?_, trivial⟩
  · rw [a1.2.2.1 k hk, a2 k hk (by have := zv_cnt (B := ze_B S) hk; omega)]
  · exact zf_q (fun t s => ∃ A, V s A ∧ zv_T (ze_B S) (ze_Q S P d) t A) 16 0 _ ⟨_, h0, hT0⟩ (fun t s _ _ ⟨A, a1, a2⟩ => ⟨(round t t s A a1 a2).2, (round t t s A a1 a2).1⟩)
