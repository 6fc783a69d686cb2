/-! ROWS OF ROWS made in a constructor -/
def rj_mna (μ : rj_M) (k N : Nat) : rj_M := (fun j => if k ≤ j ∧ j ≤ k + N then fun _ => 0 else μ.1 j, fun j => if k ≤ j ∧ j ≤ k + N then fun _ => 0 else μ.2.1 j, fun j => if k ≤ j ∧ j ≤ k + N then fun _ => 0 else μ.2.2.1 j, fun j => if j = k then (fun i => if i < N then k + 1 + i + 1 else 0) else if k < j ∧ j ≤ k + N then fun _ => 0 else μ.2.2.2 j)
theorem rj_mna_ne {μ : rj_M} {k N : Nat} (j : Nat) (hj : j < k ∨ k + N < j) : rj_sm μ (rj_mna μ k N) j :=
  ⟨(if_neg (fun z => by omega)).symm, (if_neg (fun z => by omega)).symm, (if_neg (fun z => by omega)).symm, ((if_neg (by omega)).trans (if_neg (fun z => by omega))).symm⟩
def rj_wn (ω : rj_W) (N q : Nat) (r : Nat → Nat) : rj_W := (ω.1 + 1 + N, ω.2.1, fun j => if j < ω.1 then ω.2.2 j else if j = ω.1 then q else r (j - ω.1 - 1))
theorem rj_ws_len {g : rj_G} {ω : rj_W} {μ : rj_M} : (rj_ws g ω μ).length = ω.1 := by simp [rj_ws]
theorem rj_wn_ws {g : rj_G} {ω : rj_W} {μ : rj_M} {q N M : Nat} {r : Nat → Nat} (hcl : rj_cl ω μ) (hsh : ω.2.1 ω.1 = .inl (4, N)) (hsr : ∀ i, i < N → ω.2.1 (ω.1 + 1 + i) = .inl (0, M)) : rj_ws g (rj_wn ω N q r) (rj_mna μ ω.1 N) = (rj_ws g ω μ ++ [((q, .inl (g.2.2 4, N, .inr (.inr (.inr (.inr (fun i => if i < N then some (r i) else none)))))) : Nat × va_E)]) ++ (List.range N).map (fun i => ((r i, .inl (g.2.2 0, M, .inl (fun _ => 0))) : Nat × va_E)) := by
  have hL : ∀ x : Nat × va_E, (rj_ws g ω μ ++ [x]).length = ω.1 + 1 := fun x => by rw [List.length_append, rj_ws_len]; rfl
  have at2 : ∀ (k : Nat) (sh : rj_Sh), k < ω.1 + 1 + N → ω.2.1 k = sh → (rj_ws g (rj_wn ω N q r) (rj_mna μ ω.1 N))[k]? = some ((rj_wn ω N q r).2.2 k, rj_en g (rj_wn ω N q r).2.2 (rj_mna μ ω.1 N) k sh) := fun k sh h1 h2 => rj_at (ω := rj_wn ω N q r) h1 h2
  apply List.ext_getElem?
  intro j
  by_cases h1 : j < ω.1
  · have ea : (rj_wn ω N q r).2.2 j = ω.2.2 j := if_pos h1
    have e1 : rj_en g (rj_wn ω N q r).2.2 (rj_mna μ ω.1 N) j (ω.2.1 j) = rj_en g ω.2.2 μ j (ω.2.1 j) := by
      rw [← rj_en_congr (rj_mna_ne j (.inl h1))]
      exact rj_en_ad (n := ω.1) (fun i hi => if_pos hi) (hcl j h1)
    rw [List.getElem?_append_left (by rw [hL]; omega), List.getElem?_append_left (by rw [rj_ws_len]; exact h1), at2 j _ (by omega) rfl, rj_at h1 rfl, ea, e1]
  · by_cases h2 : j = ω.1
    · subst h2
      have ea : (rj_wn ω N q r).2.2 ω.1 = q := (if_neg h1).trans (if_pos rfl)
      have e1 : rj_en g (rj_wn ω N q r).2.2 (rj_mna μ ω.1 N) ω.1 (.inl (4, N)) = .inl (g.2.2 4, N, .inr (.inr (.inr (.inr (fun i => if i < N then some (r i) else none))))) := by
        have e2 : (fun i => rj_rf (rj_wn ω N q r).2.2 ((rj_mna μ ω.1 N).2.2.2 ω.1 i)) = fun i => if i < N then some (r i) else none := funext fun i => by
          have e3 : (rj_mna μ ω.1 N).2.2.2 ω.1 i = if i < N then ω.1 + 1 + i + 1 else 0 := congrFun (if_pos rfl) i
          rw [e3]
          by_cases h3 : i < N
          · rw [if_pos h3, if_pos h3]
            show some ((rj_wn ω N q r).2.2 (ω.1 + 1 + i)) = some (r i)
            have e4 : (rj_wn ω N q r).2.2 (ω.1 + 1 + i) = r (ω.1 + 1 + i - ω.1 - 1) := (if_neg (by omega)).trans (if_neg (by omega))
            rw [e4, show ω.1 + 1 + i - ω.1 - 1 = i by omega]
          · rw [if_neg h3, if_neg h3]
            rfl
        show (Sum.inl (g.2.2 4, N, .inr (.inr (.inr (.inr (fun i => rj_rf (rj_wn ω N q r).2.2 ((rj_mna μ ω.1 N).2.2.2 ω.1 i)))))) : va_E) = _
        rw [e2]
      rw [List.getElem?_append_left (by rw [hL]; omega), List.getElem?_append_right (by rw [rj_ws_len]; exact Nat.le_refl _), rj_ws_len, Nat.sub_self, at2 ω.1 _ (by omega) hsh, ea, e1]
      rfl
    · obtain ⟨i, rfl⟩ : ∃ i, j = ω.1 + 1 + i := ⟨j - ω.1 - 1, by omega⟩
      rw [List.getElem?_append_right (by rw [hL]; omega), hL, show ω.1 + 1 + i - (ω.1 + 1) = i by omega, List.getElem?_map]
      by_cases h3 : i < N
      · have ea : (rj_wn ω N q r).2.2 (ω.1 + 1 + i) = r i := ((if_neg (by omega)).trans (if_neg (by omega))).trans (congrArg r (by omega))
        have e1 : rj_en g (rj_wn ω N q r).2.2 (rj_mna μ ω.1 N) (ω.1 + 1 + i) (.inl (0, M)) = .inl (g.2.2 0, M, .inl (fun _ => 0)) := by
          have e2 : (rj_mna μ ω.1 N).1 (ω.1 + 1 + i) = fun _ => 0 := if_pos ⟨by omega, by omega⟩
          show (Sum.inl (g.2.2 0, M, .inl ((rj_mna μ ω.1 N).1 (ω.1 + 1 + i))) : va_E) = _
          rw [e2]
        rw [List.getElem?_range h3, at2 _ _ (by omega) (hsr i h3), ea, e1]
        rfl
      · rw [List.getElem?_eq_none (by rw [rj_ws_len]; show ω.1 + 1 + N ≤ _; omega), List.getElem?_eq_none (by rw [List.length_range]; omega)]
        rfl
theorem rj_wn_cl {ω : rj_W} {μ : rj_M} {q N M : Nat} {r : Nat → Nat} (hcl : rj_cl ω μ) (hsh : ω.2.1 ω.1 = .inl (4, N)) (hsr : ∀ i, i < N → ω.2.1 (ω.1 + 1 + i) = .inl (0, M)) : rj_cl (rj_wn ω N q r) (rj_mna μ ω.1 N) := by
  intro k hk
  have hk : k < ω.1 + 1 + N := hk
  show rj_cl1 (ω.1 + 1 + N) (rj_mna μ ω.1 N) k (ω.2.1 k)
  by_cases h1 : k < ω.1
  · exact (hcl k h1).mono (by omega) (rj_mna_ne k (.inl h1)).2.2.2.symm
  · by_cases h2 : k = ω.1
    · subst h2
      rw [hsh]
      intro _ i
      have e3 : (rj_mna μ ω.1 N).2.2.2 ω.1 i = if i < N then ω.1 + 1 + i + 1 else 0 := congrFun (if_pos rfl) i
      rw [e3]
      by_cases h3 : i < N
      · rw [if_pos h3]
        omega
      · rw [if_neg h3]
        omega
    · obtain ⟨i, rfl⟩ : ∃ i, k = ω.1 + 1 + i := ⟨k - ω.1 - 1, by omega⟩
      rw [hsr i (by omega)]
      intro h4
      exact absurd h4 (show ¬ 4 ≤ 0 by decide)
section riMna
variable {nm : Method → Prop} {g : rj_G} {own : String} {cc : ByteArray} {nL : Nat} {ret : Option FieldType} {ws : List Cond} {hh : List (Nat × Nat × Nat × Nat)} {rm : Room} {F : rj_F} {u : Nat} {ω : rj_W} {μ : rj_M} {pc q : Nat} {L : (Nat → Nat) → List (Nat × Value)} {ST : (Nat → Nat) → List Value}
theorem ri_mna {idx : Nat} {n m : Int32} {N M K : Nat} (hd : decode cc pc = .ok (.multianewarray idx 2, 4)) (hq : pc + 4 = q) (hlk : Cond.classLink own idx "[[I" ∈ ws) (hac : Cond.arrayClass .int ∈ ws) (hn : ¬ n < 0) (hm : ¬ m < 0) (hN : n.toNatClampNeg = N) (hM : m.toNatClampNeg = M) (hb1 : N * 4 ≤ 536870912) (hb2 : M * 4 ≤ 536870912) (hK : 1 + N ≤ K) (hK2 : N + N * M ≤ 8 * K) (hu : u + K ≤ rm.cells) (hs : 8 * (u + K) ≤ rm.slots) (hcl : rj_cl ω μ) (hsh : ω.2.1 ω.1 = .inl (4, N)) (hsr : ∀ i, i < N → ω.2.1 (ω.1 + 1 + i) = .inl (0, M))
    (hl : ∀ ad : Nat → Nat, (∀ j, j < ω.1 → ad j = ω.2.2 j) → L ad = L ω.2.2) (hst : ∀ ad : Nat → Nat, (∀ j, j < ω.1 → ad j = ω.2.2 j) → ST ad = ST ω.2.2)
    (kk : ∀ ω1 : rj_W, ω1.1 = ω.1 + 1 + N → ω1.2.1 = ω.2.1 → (∀ j, j < ω.1 → ω1.2.2 j = ω.2.2 j) → rj_cl ω1 (rj_mna μ ω.1 N) → rj_RI nm g own cc nL ret ws hh rm F (u + K) ω1 (rj_mna μ ω.1 N) (L ω1.2.2) q (.ref (ω1.2.2 ω.1) :: ST ω1.2.2)) : rj_RI nm g own cc nL ret ws hh rm F u ω μ (L ω.2.2) pc (.int m :: .int n :: ST ω.2.2) := by
  subst hq
  intro p e s m' args below meth c H locs A ls C N0 S h
  have hI : s.vm.findClass (FieldType.array .int).toString = some (g.2.2 0) := (S.1.2.1.2 0 (g.2.2 0, .int) rfl).2
  have hAA : va_AOA .int s := S.2.2.2.2.2.2.2.2.2.2
  refine va_mna (X := rj_ws g ω μ) (L := []) (f := fun _ => .inl (g.2.2 0, M, .inl fun _ => 0)) (D := g.2.1) (cl := vwCl) (tys := rj_ty g) (ty := .int) (cy := g.2.2 0) (z := (M, .inl (fun _ => 0))) C.1 C.2.1 C.2.2.2.2.1 (C.2.2.2.2.2.1 _ hlk) hAA (C.2.2.2.2.2.1 _ hac) hI S.1.2.1 (by rw [show va_pl [] (fun _ => (.inl (g.2.2 0, M, .inl fun _ => 0) : va_E)) = ([] : va_W) from rfl, List.append_nil]; exact S.1.1) (by rw [show va_pl [] (fun _ => (.inl (g.2.2 0, M, .inl fun _ => 0) : va_E)) = ([] : va_W) from rfl, List.append_nil]; exact S.1.2.2) S.2.1 S.2.2.1 hn hm hN hM hb1 (by show M * 4 ≤ 536870912; exact hb2) (by omega) rfl rfl (by omega) (by omega) (fun c => by show _ = arrV c M (fun _ => Value.int 0); exact arrV_new c M (.int 0)) hd (fun a r cA H1 hr1 hr2 hK' hP hD hS => ?_)
  have hcA : cA = g.2.2 4 := by
    have e1 := (hK'.2 (rj_ty g).length (cA, .array .int) (by simp)).2
    have e2 := (S.1.2.1.2 4 (g.2.2 4, .array .int) rfl).2
    exact Option.some.inj (e1.symm.trans e2)
  subst hcA
  have epl : va_pl ([] ++ (List.range N).map r) (vr_up (fun _ => (.inl (g.2.2 0, M, .inl fun _ => 0) : va_E)) ((List.range N).map r) (.inl (g.2.2 0, (M, .inl (fun _ => 0))))) = (List.range N).map (fun i => ((r i, .inl (g.2.2 0, M, .inl (fun _ => 0))) : Nat × va_E)) := by
    show ((List.range N).map r).map _ = _
    rw [List.map_map]
    apply List.map_congr_left
    intro i hi
    show (r i, vr_up _ _ _ (r i)) = _
    rw [vr_up_in (List.mem_map.mpr ⟨i, hi, rfl⟩)]
  rw [epl, ← rj_wn_ws (q := a) (r := r) hcl hsh hsr] at hP hD
  have hag : ∀ j, j < ω.1 → (rj_wn ω N a r).2.2 j = ω.2.2 j := fun j hj => if_pos hj
  have hx := kk (rj_wn ω N a r) rfl rfl hag (rj_wn_cl hcl hsh hsr) p e s m' args below meth c H1 locs A ls C N0 ⟨⟨hP, S.1.2.1, hD⟩, hS, S.2.2⟩ (by rw [hl _ hag]; exact h)
  rw [hst _ hag, show (rj_wn ω N a r).2.2 ω.1 = a from (if_neg (Nat.lt_irrefl _)).trans (if_pos rfl)] at hx
  exact W.widen (by omega) (by omega) hx
end riMna
