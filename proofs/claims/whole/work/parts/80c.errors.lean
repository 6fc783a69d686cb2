/-! ERRORS, both sides -/
section zsm
variable {c r : rj_M} {S : Nat → Nat} {B : Nat → Int} {a0 a1 a2 : Int32}
theorem zq_evsum {M : rj_M} (hrow : zr_row (M.1 396) S B) {v : Nat} (hv : v < 12) {f : Nat → Int32 → Int32} (hf : ∀ j s, f j s = s + fX12_wishOf M (nI v) (M.1 407 (nI j).toNatClampNeg)) : ∀ (l : List Nat) (j s : Nat), j + l.length < 2 ^ 31 → (∀ i k, l[i]? = some k → M.1 407 (j + i) = nI k ∧ k < 16) → rj_fo f l.length j (nI s) = nI (s + ze_sum (ze_W S v) l)
  | [], j, s, _, _ => rfl
  | k :: l, j, s, hj, h => by
    rw [List.length_cons] at hj
    obtain ⟨h1, hk⟩ := h 0 k rfl
    rw [Nat.add_zero] at h1
    have e : f j (nI s) = nI (s + ze_W S v k) := by
      rw [hf, nI_clamp (n := j) (by omega), h1, zq_wish hrow hv hk, nI_add]
      unfold ze_W
      rw [if_pos hk]
    rw [List.length_cons, rj_fo_s, e, zq_evsum hrow hv hf l (j + 1) (s + ze_W S v k) (by omega) (fun i k' hi => by
      have := h (i + 1) k' (by rw [List.getElem?_cons_succ]; exact hi)
      rw [show j + 1 + i = j + (i + 1) by omega]
      exact this)]
    show nI (s + ze_W S v k + _) = nI (s + (ze_W S v k + _))
    rw [Nat.add_assoc]
set_option maxRecDepth 100000 in
/-- the evenings are right, reference -/
theorem zo_eveningsR (hg : zr_grnd c 1 S) (hc : zr_prog c 1 S) (hr : zr_row (r.1 396) S B) (ok : zo_prog S) (og : zo_grnd S) : fX12_areEvenings r = 1 ∧ zo_rst r (mX12_areEvenings r) ∧ (mX12_areEvenings r).1 395 0 = r.1 395 0 ∧ qX12_areEvenings r := by
  have step : ∀ v d (s4 s : Int32 × rj_M), v < 12 → d < 4 → s.1 = 1 → zo_rst r s.2 → qX12_areEvenings_12 r v s4 d s ∧ (bX12_areEvenings_12 r v s4 d s).1 = 1 ∧ zo_rst r (bX12_areEvenings_12 r v s4 d s).2 ∧ (bX12_areEvenings_12 r v s4 d s).2.1 395 0 = s.2.1 395 0 := fun v d s4 s hv hd hs1 rs => by
    obtain ⟨P, hp, -⟩ := zc_plan1 hg hc ok og hv
    have hE := hp.2.2.2.2.1
    obtain ⟨q1, q2, q3, q4, q5, q6, q7⟩ := zq_even (zo_rst_row rs hr) ok og hv hd hE hp.2.2.2.2.2
    have rst := zo_rst_trans rs (zq_evrst q5 q6 q7)
    have hV : ∀ k, k ∈ ze_row S P v d → ze_V S P v d k := ze_run_V ok hE 16 (ze_f S P d) (fun k hk => (ze_f_V hE hk).1)
    have hlen : (ze_row S P v d).length ≤ 16 := ze_run_len (nx := ze_n S P v) 16 (ze_f S P d)
    have hN : ((mX12_findsEvening s.2 (nI v) (nI d)).1 395 8).toInt.toNat - 0 = (ze_row S P v d).length := by
      rw [q3]
      exact zn_toN (by omega)
    have hrow2 := zo_rst_row rst hr
    have hget : ∀ i k, (ze_row S P v d)[i]? = some k → (mX12_findsEvening s.2 (nI v) (nI d)).1 407 (0 + i) = nI k ∧ k < 16 := fun i k hi => by
      rw [Nat.zero_add]
      exact ⟨q4 i k hi, (hV k (List.mem_of_getElem? hi)).1⟩
    have hsum : rj_fo (bX12_areEvenings_31 r v s4 d s) (ze_row S P v d).length 0 0 = nI (ze_max (ze_Q S P d)) := by
      have h1 := zq_evsum (M := mX12_findsEvening s.2 (nI v) (nI d)) hrow2 hv (f := bX12_areEvenings_31 r v s4 d s) (fun _ _ => rfl) (ze_row S P v d) 0 0 (by omega) hget
      rw [Nat.zero_add, ze_row_sum ok hE] at h1
      exact h1
    have hq31 : rq_fo (qX12_areEvenings_31 r v s4 d s) (bX12_areEvenings_31 r v s4 d s) (ze_row S P v d).length 0 0 := by
      refine zf_q (fun _ _ => True) _ 0 0 trivial (fun j x _ hj _ => ⟨?_, trivial⟩)
      have hj' : j < (ze_row S P v d).length := by omega
      have hg := hget j _ (List.getElem?_eq_getElem hj')
      rw [Nat.zero_add] at hg
      unfold qX12_areEvenings_31
      rw [nI_clamp (n := j) (by omega), hg.1]
      exact ⟨vp_in_nI (by omega) (by decide), vp_in_nI hg.2 (by decide), trivial⟩
    have h80 := q6 0 (by decide)
    unfold qX12_areEvenings_12 bX12_areEvenings_12
    rw [hN, hsum, q2, if_neg (by rw [hs1]; decide), if_pos rfl]
    have hra : ra_fo (qX12_areEvenings_31 r v s4 d s) (bX12_areEvenings_31 r v s4 d s) (ze_row S P v d).length 0 0 := ra_fo_i hq31
    clear hq31 hget hrow2 hN hsum q2 q3 q4 q5 q6 q7
    generalize mX12_findsEvening s.2 (nI v) (nI d) = LM at rst h80 ⊢
    exact ⟨⟨q1, fun _ => hra, trivial⟩, rfl, rst, h80⟩
  have row : ∀ v (s4 : Int32 × rj_M), v < 12 → s4.1 = 1 → zo_rst r s4.2 → qX12_areEvenings_4 r v s4 ∧ (bX12_areEvenings_4 r v s4).1 = 1 ∧ zo_rst r (bX12_areEvenings_4 r v s4).2 ∧ (bX12_areEvenings_4 r v s4).2.1 395 0 = s4.2.1 395 0 := fun v s4 hv h1 rs => by
    have hz := zf_inv (f := bX12_areEvenings_12 r v s4) (fun _ s => s.1 = 1 ∧ zo_rst r s.2 ∧ s.2.1 395 0 = s4.2.1 395 0) 4 0 (s4.1, s4.2) ⟨h1, rs, rfl⟩ (fun d s _ hd hs => by
      obtain ⟨-, b1, b2, b3⟩ := step v d s4 s hv (by omega) hs.1 hs.2.1
      exact ⟨b1, b2, b3.trans hs.2.2⟩)
    refine ⟨⟨fun _ => ra_fo_i ?_, trivial⟩, hz.1, hz.2.1, hz.2.2⟩
    exact zf_q (fun _ s => s.1 = 1 ∧ zo_rst r s.2) 4 0 (s4.1, s4.2) ⟨h1, rs⟩ (fun d s _ hd hs => by
      obtain ⟨b0, b1, b2, b3⟩ := step v d s4 s hv (by omega) hs.1 hs.2
      exact ⟨b0, b1, b2⟩)
  have r0 : zo_rst r ((1 : Int32), r).2 := zo_rst_of ⟨fun _ _ => rfl, fun _ _ => rfl, rfl⟩
  have hz := zf_inv (f := bX12_areEvenings_4 r) (fun _ s => s.1 = 1 ∧ zo_rst r s.2 ∧ s.2.1 395 0 = r.1 395 0) 12 0 (1, r) ⟨rfl, r0, rfl⟩ (fun v s _ hv hs => by
    obtain ⟨-, b1, b2, b3⟩ := row v s (by omega) hs.1 hs.2.1
    exact ⟨b1, b2, b3.trans hs.2.2⟩)
  unfold fX12_areEvenings mX12_areEvenings qX12_areEvenings
  refine ⟨hz.1, hz.2.1, hz.2.2, fun _ => ra_fo_i ?_, by rw [hz.1]; rfl, trivial⟩
  exact zf_q (fun _ s => s.1 = 1 ∧ zo_rst r s.2) 12 0 (1, r) ⟨rfl, r0⟩ (fun v s _ hv hs => by
    obtain ⟨b0, b1, b2, b3⟩ := row v s (by omega) hs.1 hs.2
    exact ⟨b0, b1, b2⟩)
theorem zo_scr15 : ∀ k, k < 15 → zo_scr k = false := by decide
theorem zo_scr25 : ∀ k, k < 25 → 18 ≤ k → zo_scr k = false := by decide
theorem zo_scr28 : ∀ k, k < 28 → 26 ≤ k → zo_scr k = false := by decide
theorem zo_scr45 : ∀ k, k < 45 → 39 ≤ k → zo_scr k = false := by decide
theorem zo_cst_exit {c' : rj_M} (h : zo_cst c c') (hc : zr_exit c 1 S) : zr_exit c' 1 S := zt_exit hc (fun k k1 k2 => h.1 k (zo_scr25 k (by omega) k1)) (fun _ _ _ => rfl)
theorem zo_cst_bars {c' : rj_M} (h : zo_cst c c') (hc : zr_bars c 1 S) : zr_bars c' 1 S := zt_bars hc (fun k k1 k2 => h.1 k (zo_scr25 k (by omega) (by omega))) (fun _ _ _ => rfl)
theorem zo_cst_shft {c' : rj_M} (h : zo_cst c c') (hc : zr_shft c 1 S) : zr_shft c' 1 S := zt_shft hc (fun k k1 k2 => h.1 k (zo_scr28 k (by omega) k1)) (fun _ _ _ => rfl)
theorem zo_cst_purs {c' : rj_M} (h : zo_cst c c') (hc : zr_purs c 1 S B) : zr_purs c' 1 S B := zt_purs hc (fun k k1 k2 => h.1 k (zo_scr45 k (by omega) (by omega))) (by rw [h.2]; exact ⟨rfl, rfl, rfl⟩) (fun _ _ _ => rfl) (fun _ _ => rfl)
theorem zm_holds {m : rj_M} {p : Prop} [Decidable p] : fX11_holds m (if p then 0 else 1) = if p then 1 else 0 := by
  unfold fX11_holds
  by_cases h : p
  · rw [if_pos h, if_pos h, if_pos rfl]
  · rw [if_neg h, if_neg h, if_neg (by decide)]
theorem zm_holds1 {m : rj_M} : fX11_holds m 1 = 0 := if_neg (by decide)
end zsm
