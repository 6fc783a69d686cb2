/-! LINEUPS: the reference's trying -/
theorem zn_ne {L : Int32} {n a : Nat} (hL : L = nI n) (h : a ≠ n) (ha : a < 2 ^ 31) (hn : n < 2 ^ 31) : ¬ nI a = L := by
  subst hL
  exact fun z => h ((nI_eq ha hn).mp z)
theorem zn_toN {k : Nat} (h : k < 2 ^ 31) : (nI k).toInt.toNat - 0 = k := by
  rw [nI_toInt h]
  exact Int.toNat_natCast k
theorem zn_lt_mono {I : Int32} {a b : Nat} (h : I < nI a) (hab : a ≤ b) (hb : b < 2 ^ 31) : I < nI b := Int32.lt_of_lt_of_le h (nI_le hab hb)
theorem zq_row_pi {μ : rj_M} {S : Nat → Nat} {B : Nat → Int} {k i : Nat} {v : Int32} (h : zr_row (μ.1 396) S B) (hk : 396 ≠ k) : zr_row ((rj_pi μ k i v).1 396) S B := by
  rw [zm_pi_ne hk]
  exact h
theorem zl_q {S : Nat → Nat} {B : Nat → Int} (ok : zo_prog S) : ∀ (r n k set v : Nat) (μ : rj_M), k + r = 16 → r < n → set < 2 ^ k → v + r * 108 ≤ 2000 → zr_row (μ.1 396) S B → mX12_triesLineups n μ (nI k) (nI set) (nI v) = (if μ.1 395 5 < nI (v + (zl_best (zp_el S) (zp_cl S) (zp_p S) r k set).1) then rj_pi (rj_pi μ 395 5 (nI (v + (zl_best (zp_el S) (zp_cl S) (zp_p S) r k set).1))) 395 4 (nI (set + (zl_best (zp_el S) (zp_cl S) (zp_p S) r k set).2)) else μ) ∧ qX12_triesLineups n μ (nI k) (nI set) (nI v)
  | _, 0, _, _, _, _, _, h, _, _, _ => absurd h (Nat.not_lt_zero _)
  | 0, n + 1, k, set, v, μ, hk, _, _, _, _ => by
    have e : k = 16 := by omega
    subst e
    rw [mX12_triesLineups_s, qX12_triesLineups_s]
    refine ⟨?_, fun _ => trivial, fun z => absurd rfl z⟩
    exact if_pos rfl
  | r + 1, n + 1, k, set, v, μ, hk, hn, hset, hv, h => by
    have hk16 : k < 16 := by omega
    have hset31 : set < 2 ^ 31 := Nat.lt_of_lt_of_le hset (Nat.pow_le_pow_right (by decide) (by omega))
    have hne : ¬ nI k = 16 := zn_ne (n := 16) rfl (by omega) (by omega) (by decide)
    have hb := zl_best_le (el := zp_el S) (cl := zp_cl S) (zp_p_le ok) r (k + 1) set
    have hb2 := zl_best_le (el := zp_el S) (cl := zp_cl S) (zp_p_le ok) r (k + 1) (set + 2 ^ k)
    have hpk : zp_p S k = zp_pl S k := if_pos hk16
    have hpb := zp_p_le ok k
    have hs1 : set < 2 ^ (k + 1) := Nat.lt_of_lt_of_le hset (Nat.pow_le_pow_right (by decide) (Nat.le_succ k))
    have hs2 : set + 2 ^ k < 2 ^ (k + 1) := by rw [Nat.pow_succ]; omega
    have hmul : (r + 1) * 108 = r * 108 + 108 := Nat.succ_mul r 108
    have hloop := zl_loop (f := bX12_triesLineups_36 n μ (nI k) (nI set) (nI v)) (C := fun j => fX12_areClashing μ (nI j) (nI k)) (cl := zp_cl S) (k := k) (set := set) (by omega) hset31 (fun j s => rfl) (fun j hj => by
      unfold zp_cl
      rcases zq_clash h ok (a := j) (b := k) (by omega) hk16 with ⟨e, e2⟩ | ⟨e, e2⟩
      · rw [e2, zz_t.mpr e]
        exact ⟨fun z => absurd z (by decide), fun z => absurd z (by decide)⟩
      · rw [e2, zz_f.mpr e]
        exact ⟨fun _ => rfl, fun _ => rfl⟩) (x := fX12_isAct μ (nI k)) (by
      rcases zq_isAct h ok hk16 with ⟨-, e⟩ | ⟨-, e⟩
      · exact .inl e
      · exact .inr e)
    have hcan : (rj_br (bX12_triesLineups_36 n μ (nI k) (nI set) (nI v)) ((nI k).toInt.toNat - 0) 0 (fX12_isAct μ (nI k))).2 = 0 ↔ ¬ zl_canb (zp_el S) (zp_cl S) k set = true := by
      rw [zn_toN (by omega), hloop, zl_canb_iff]
      unfold zl_can zp_el
      rw [zz_t]
      rcases zq_isAct h ok hk16 with ⟨e, e2⟩ | ⟨e, e2⟩
      · rw [e2]
        exact not_congr (and_congr_left (fun _ => ⟨fun _ => e, fun _ => rfl⟩))
      · rw [e2]
        exact not_congr (and_congr_left (fun _ => ⟨fun z => absurd z (by decide), fun z => absurd z e⟩))
    have i1 := zl_q ok r n (k + 1) set v μ (by omega) (by omega) hs1 (by omega) h
    rw [mX12_triesLineups_s, qX12_triesLineups_s, if_neg hne, nI_1]
    by_cases hc : zl_canb (zp_el S) (zp_cl S) k set = true
    · have hc0 := fun z => hcan.mp z hc
      rw [if_neg hc0, zq_pl h hk16, nI_add, zn_set hset (by omega)]
      have i2 := zl_q ok r n (k + 1) (set + 2 ^ k) (v + zp_pl S k) μ (by omega) (by omega) hs2 (by omega) h
      generalize hw : zl_best (zp_el S) (zp_cl S) (zp_p S) r (k + 1) (set + 2 ^ k) = w at *
      generalize hwo : zl_best (zp_el S) (zp_cl S) (zp_p S) r (k + 1) set = wo at *
      rw [zl_best_s, if_pos hc, hw, hwo, hpk]
      rw [hpk] at hpb
      by_cases a1 : μ.1 395 5 < nI (v + zp_pl S k + w.1)
      · rw [if_pos a1] at i2
        rw [i2.1]
        have i3 := zl_q ok r n (k + 1) set v (rj_pi (rj_pi μ 395 5 (nI (v + zp_pl S k + w.1))) 395 4 (nI (set + 2 ^ k + w.2))) (by omega) (by omega) hs1 (by omega) (zq_row_pi (zq_row_pi h (by decide)) (by decide))
        rw [zm_pi_ne2 (by decide), zm_pi_eq, hwo] at i3
        refine ⟨?_, fun z => absurd z hne, fun _ => ⟨fun z => absurd z hc0, fun _ => ⟨i2.2, i3.2, trivial⟩⟩⟩
        rw [i3.1]
        by_cases a2 : wo.1 ≤ zp_pl S k + w.1
        · rw [if_pos a2, if_neg (nI_nlt (by omega) (by omega))]
          rw [if_pos (show μ.1 395 5 < nI (v + (zp_pl S k + w.1)) by rw [← Nat.add_assoc]; exact a1)]
          rw [← Nat.add_assoc, ← Nat.add_assoc]
        · rw [if_neg a2, if_pos (nI_lt (by omega) (by omega)), zm_over (by decide), if_pos (zn_lt_mono a1 (by omega) (by omega))]
      · rw [if_neg a1] at i2
        rw [i2.1]
        refine ⟨?_, fun z => absurd z hne, fun _ => ⟨fun z => absurd z hc0, fun _ => ⟨i2.2, i1.2, trivial⟩⟩⟩
        rw [i1.1]
        by_cases a2 : wo.1 ≤ zp_pl S k + w.1
        · rw [if_pos a2, if_neg (fun z => a1 (zn_lt_mono z (by omega) (by omega)))]
          rw [if_neg (show ¬ μ.1 395 5 < nI (v + (zp_pl S k + w.1)) by rw [← Nat.add_assoc]; exact a1)]
        · rw [if_neg a2]
    · have hc0 := hcan.mpr hc
      rw [if_pos hc0, zl_best_s, if_neg hc]
      exact ⟨i1.1, fun z => absurd z hne, fun _ => ⟨fun _ => ⟨i1.2, trivial⟩, fun z => absurd hc0 z⟩⟩
theorem zq_lineup {r : rj_M} {S : Nat → Nat} {B : Nat → Int} (h : zr_row (r.1 396) S B) (ok : zo_prog S) : mX12_lineup r = rj_pi (rj_pi (rj_pi r 395 5 (-1)) 395 5 (nI (zl_best (zp_el S) (zp_cl S) (zp_p S) 16 0 0).1)) 395 4 (nI (zl_best (zp_el S) (zp_cl S) (zp_p S) 16 0 0).2) ∧ fX12_lineup r = nI (zl_best (zp_el S) (zp_cl S) (zp_p S) 16 0 0).2 ∧ qX12_lineup r := by
  have hb := zl_best_le (el := zp_el S) (cl := zp_cl S) (zp_p_le ok) 16 0 0
  have hq := zl_q ok 16 17 0 0 0 (rj_pi r 395 5 (-1)) rfl (by decide) (by decide) (by decide) (zq_row_pi h (by decide))
  rw [zm_pi_eq, Nat.zero_add, Nat.zero_add, if_pos (Int32.lt_of_lt_of_le (show (-1 : Int32) < nI 0 by decide) (nI_le (Nat.zero_le _) (by omega))), show nI 0 = (0 : Int32) from rfl] at hq
  have e : mX12_lineup r = rj_pi (rj_pi (rj_pi r 395 5 (-1)) 395 5 (nI (zl_best (zp_el S) (zp_cl S) (zp_p S) 16 0 0).1)) 395 4 (nI (zl_best (zp_el S) (zp_cl S) (zp_p S) 16 0 0).2) := by
    unfold mX12_lineup
    rw [rz17_eq]
    exact hq.1
  refine ⟨e, ?_, ?_⟩
  · show (mX12_lineup r).1 395 4 = _
    rw [e, zm_pi_eq]
  · unfold qX12_lineup
    rw [rz17_eq]
    exact ⟨hq.2, trivial⟩
/-- the most on a stage -/
theorem zl_qs {S : Nat → Nat} {B : Nat → Int} {μ : rj_M} (ok : zo_prog S) (h : zr_row (μ.1 396) S B) {st : Nat} (hst : st < 4) : ∀ (r n k set : Nat), k + r = 16 → r < n → set < 2 ^ k → fX12_mostOnStage n μ (nI st) (nI k) (nI set) = nI (zl_best (zp_els S st) (zp_me S) (zp_p S) r k set).1 ∧ qX12_mostOnStage n μ (nI st) (nI k) (nI set)
  | _, 0, _, _, _, h, _ => absurd h (Nat.not_lt_zero _)
  | 0, n + 1, k, set, hk, _, _ => by
    have e : k = 16 := by omega
    subst e
    rw [fX12_mostOnStage_s, qX12_mostOnStage_s]
    refine ⟨?_, fun _ => trivial, fun z => absurd rfl z⟩
    exact if_pos rfl
  | r + 1, n + 1, k, set, hk, hn, hset => by
    have hk16 : k < 16 := by omega
    have hset31 : set < 2 ^ 31 := Nat.lt_of_lt_of_le hset (Nat.pow_le_pow_right (by decide) (by omega))
    have hne : ¬ nI k = 16 := zn_ne (n := 16) rfl (by omega) (by omega) (by decide)
    have hb := zl_best_le (el := zp_els S st) (cl := zp_me S) (zp_p_le ok) r (k + 1) set
    have hb2 := zl_best_le (el := zp_els S st) (cl := zp_me S) (zp_p_le ok) r (k + 1) (set + 2 ^ k)
    have hpk : zp_p S k = zp_pl S k := if_pos hk16
    have hpb := zp_p_le ok k
    have hr15 : r * 108 ≤ 15 * 108 := Nat.mul_le_mul_right _ (by omega)
    have hs1 : set < 2 ^ (k + 1) := Nat.lt_of_lt_of_le hset (Nat.pow_le_pow_right (by decide) (Nat.le_succ k))
    have hs2 : set + 2 ^ k < 2 ^ (k + 1) := by rw [Nat.pow_succ]; omega
    have hst4 := (ok.1 k hk16).2.1
    have hC : ∀ j, j < k → (fX12_piecesMeet μ (nI j) (nI k) = 0 ↔ zp_me S j k = false) := fun j hj => by
      unfold zp_me
      rcases zq_meet h ok (a := j) (b := k) (by omega) hk16 with ⟨e, e2⟩ | ⟨e, e2⟩
      · rw [e2, zz_t.mpr e]
        exact ⟨fun z => absurd z (by decide), fun z => absurd z (by decide)⟩
      · rw [e2, zz_f.mpr e]
        exact ⟨fun _ => rfl, fun _ => rfl⟩
    have l1 := zl_loop (f := bX12_mostOnStage_47 n μ (nI st) (nI k) (nI set)) (C := fun j => fX12_piecesMeet μ (nI j) (nI k)) (cl := zp_me S) (k := k) (set := set) (by omega) hset31 (fun j s => rfl) hC (x := 0) (.inr rfl)
    have l2 := zl_loop (f := bX12_mostOnStage_47b n μ (nI st) (nI k) (nI set)) (C := fun j => fX12_piecesMeet μ (nI j) (nI k)) (cl := zp_me S) (k := k) (set := set) (by omega) hset31 (fun j s => rfl) hC (x := 0) (.inr rfl)
    have l3 := zl_loop (f := bX12_mostOnStage_47c n μ (nI st) (nI k) (nI set)) (C := fun j => fX12_piecesMeet μ (nI j) (nI k)) (cl := zp_me S) (k := k) (set := set) (by omega) hset31 (fun j s => rfl) hC (x := 1) (.inl rfl)
    have z1 := l1.mpr (fun z => absurd z.1 (by decide))
    have z2 := l2.mpr (fun z => absurd z.1 (by decide))
    have i1 := zl_qs ok h hst r n (k + 1) set (by omega) (by omega) hs1
    have i2 := zl_qs ok h hst r n (k + 1) (set + 2 ^ k) (by omega) (by omega) hs2
    have hcn : ¬ (zp_has S k ∧ S (24 + 6 * k) = st) → ¬ zl_canb (zp_els S st) (zp_me S) k set = true := fun z y => z (zz_t.mp (zl_canb_iff.mp y).1)
    rw [fX12_mostOnStage_s, qX12_mostOnStage_s, if_neg hne, zn_toN (by omega), nI_1, zn_set hset (by omega), i1.1, i2.1, zq_pl h hk16, nI_add, zq_stage h hk16]
    rcases zq_isAct h ok hk16 with ⟨e, e2⟩ | ⟨e, e2⟩
    · rw [e2, if_neg (show ¬ (1 : Int32) = 0 by decide)]
      by_cases f : S (24 + 6 * k) = st
      · rw [if_pos (show nI (S (24 + 6 * k)) = nI st by rw [f])]
        by_cases g : ∀ i, i < k → set.testBit i = true → zp_me S i k = false
        · have hc : zl_canb (zp_els S st) (zp_me S) k set = true := zl_canb_iff.mpr ⟨zz_t.mpr ⟨e, f⟩, g⟩
          have hl : ¬ (rj_br (bX12_mostOnStage_47c n μ (nI st) (nI k) (nI set)) k 0 1).2 = 0 := fun z => l3.mp z ⟨rfl, g⟩
          rw [if_neg hl, zl_best_s, if_pos hc, hpk]
          rw [hpk] at hpb
          refine ⟨?_, fun z => absurd z hne, fun _ => ⟨i1.2, fun z => absurd z (by decide), fun _ => ⟨fun _ => ⟨fun z => absurd z hl, fun _ => ⟨i2.2, trivial⟩⟩, fun z => absurd (show nI (S (24 + 6 * k)) = nI st by rw [f]) z⟩⟩⟩
          generalize zl_best (zp_els S st) (zp_me S) (zp_p S) r (k + 1) (set + 2 ^ k) = w at *
          generalize zl_best (zp_els S st) (zp_me S) (zp_p S) r (k + 1) set = wo at *
          by_cases a1 : wo.1 < zp_pl S k + w.1
          · rw [if_pos (nI_lt a1 (by omega)), if_pos (show wo.1 ≤ zp_pl S k + w.1 by omega)]
          · rw [if_neg (nI_nlt (Nat.le_of_not_lt a1) (by omega))]
            by_cases a2 : wo.1 ≤ zp_pl S k + w.1
            · rw [if_pos a2, show zp_pl S k + w.1 = wo.1 by omega]
            · rw [if_neg a2]
        · have hc : ¬ zl_canb (zp_els S st) (zp_me S) k set = true := fun z => g (zl_canb_iff.mp z).2
          have hl := l3.mpr (fun z => g z.2)
          rw [if_pos hl, zl_best_s, if_neg hc]
          exact ⟨rfl, fun z => absurd z hne, fun _ => ⟨i1.2, fun z => absurd z (by decide), fun _ => ⟨fun _ => ⟨fun _ => trivial, fun z => absurd hl z⟩, fun z => absurd (show nI (S (24 + 6 * k)) = nI st by rw [f]) z⟩⟩⟩
      · have f2 : ¬ nI (S (24 + 6 * k)) = nI st := fun z => f ((nI_eq (by omega) (by omega)).mp z)
        rw [if_neg f2, if_pos z2, zl_best_s, if_neg (hcn (fun z => f z.2))]
        exact ⟨rfl, fun z => absurd z hne, fun _ => ⟨i1.2, fun z => absurd z (by decide), fun _ => ⟨fun z => absurd z f2, fun _ => ⟨fun _ => trivial, fun z => absurd z2 z⟩⟩⟩⟩
    · rw [e2, if_pos rfl, if_pos z1, zl_best_s, if_neg (hcn (fun z => e z.1))]
      exact ⟨rfl, fun z => absurd z hne, fun _ => ⟨i1.2, fun _ => ⟨fun _ => trivial, fun z => absurd z1 z⟩, fun z => absurd rfl z⟩⟩
theorem zq_bound {r : rj_M} {S : Nat → Nat} {B : Nat → Int} (h : zr_row (r.1 396) S B) (ok : zo_prog S) : fX12_bound r = nI (zp_bound S) ∧ qX12_bound r := by
  have key : ∀ st, st < 4 → fX12_mostOnStage rz17 r (nI st) 0 0 = nI (zl_best (zp_els S st) (zp_me S) (zp_p S) 16 0 0).1 ∧ qX12_mostOnStage rz17 r (nI st) 0 0 := fun st hst => by
    rw [rz17_eq]
    exact zl_qs ok h hst 16 17 0 0 rfl (by decide) (by decide)
  unfold fX12_bound qX12_bound zp_bound
  refine ⟨zf_rel (fun _ x y => x = nI y) 4 0 (0 : Int32) (0 : Nat) rfl (fun st x y _ hst hx => ?_), fun _ => ra_fo_i (zf_q (fun _ _ => True) 4 0 0 trivial (fun st x _ hst _ => ⟨⟨(key st (by omega)).2, trivial⟩, trivial⟩)), trivial⟩
  unfold bX12_bound_4
  rw [(key st (by omega)).1, hx, nI_add]
