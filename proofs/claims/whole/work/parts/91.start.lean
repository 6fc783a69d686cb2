/-! THE START -/
/-- an array class, by the tables -/
theorem lz_arr {s : State} {args : Array Value} {ty : FieldType} (h : (Cond.arrayClass ty).before args s = true) (hp : ∀ C, ty ≠ .object C) : ∃ cA : ClassId, ArrOfT s cA ty ∧ va_RA s cA ty := by
  obtain ⟨cA, kA, comp, h1, h2, h3⟩ := Cond.arrayClass_spec h
  refine ⟨cA, fun n z => ⟨fun k e => (by cases e), kA, h2, comp, h3⟩, ?_⟩
  cases ty with
  | object C => exact absurd rfl (hp C)
  | _ => exact h1
theorem lz_arrR {s : State} (h : va_AO RX5 s) : ∃ cA : ClassId, ArrOfT s cA (.object RX5) ∧ va_RA s cA (.object RX5) := by
  obtain ⟨comp, cA, kA, h1, -, h2, h3, h4⟩ := Cond.arrayOver_spec (args := #[]) (first := s) (o := none) (idx := []) h
  exact ⟨cA, fun n z => ⟨fun k e => (by cases e), kA, h2, comp, h3⟩, kA, comp, h2, h3, h1, h4⟩
theorem lz_arrA {s : State} (h : rj_AA s) : ∃ cA : ClassId, ArrOfT s cA (.array .int) ∧ va_RA s cA (.array .int) := by
  obtain ⟨comp, cA, kA, h1, -, h2, h3, h4⟩ := h.spec
  exact ⟨cA, fun n z => ⟨fun k e => (by cases e), kA, h2, comp, h3⟩, h4⟩
theorem lz_known {s : State} {args : Array Value} (hts : ∀ w ∈ lw_tbl, w.before args s = true) : ∀ q ∈ vwCl, ∃ (cC : ClassId) (iS : Nat → Nat), u_Kn s q.1 q.2.1 q.2.2 cC iS :=
  List.forall_mem_cons.mpr ⟨u_known hts lw_u_wsX00 (hts _ lz_insRX0), List.forall_mem_cons.mpr ⟨u_known hts lw_u_wsX10 (hts _ lz_insRX1), List.forall_mem_cons.mpr ⟨u_known hts lw_u_wsX20 (hts _ lz_insRX2), List.forall_mem_cons.mpr ⟨u_known hts lw_u_wsX30 (hts _ lz_insRX3), List.forall_mem_cons.mpr ⟨u_known hts lw_u_wsX40 (hts _ lz_insRX4), List.forall_mem_cons.mpr ⟨u_known hts lw_u_wsX50 (hts _ lz_insRX5), List.forall_mem_cons.mpr ⟨u_known hts lw_u_wsX60 (hts _ lz_insRX6), List.forall_mem_cons.mpr ⟨u_known hts lw_u_wsX70 (hts _ lz_insRX7), List.forall_mem_cons.mpr ⟨u_known hts lw_u_wsX80 (hts _ lz_insRX8), List.forall_mem_cons.mpr ⟨u_known hts lw_u_wsX90 (hts _ lz_insRX9), List.forall_mem_cons.mpr ⟨u_known hts lw_u_wsX100 (hts _ lz_insRX10), List.forall_mem_cons.mpr ⟨u_known hts lw_u_wsX110 (hts _ lz_insRX11), List.forall_mem_cons.mpr ⟨u_known hts lw_u_wsX120 (hts _ lz_insRX12), fun _ h => nomatch h⟩⟩⟩⟩⟩⟩⟩⟩⟩⟩⟩⟩⟩
theorem lz_N {s : State} {b : Nat} (hts : ∀ w ∈ lw_tbl, w.before #[Value.ref b] s = true) (hgv : (Jvm.Cond.and given_1 narrow_1).before #[Value.ref b] s = true) : rj_N s := by
  refine ⟨fun q hq => va_Nw.of rfl (hts _ (lz_nw q hq)), fun q hq => ?_, fun q hq => va_Nw.of rfl (hts _ (lz_ca q hq)), fun q hq => va_Nc.of (flat_of_before _ hgv _ (lz_nc q hq)), fun x hx => va_Nw.of rfl (hts _ (lz_dc x hx)), va_AO.of (hts _ lz_ao5), hts _ lz_aoi⟩
  obtain ⟨a, -, -, -, he, -⟩ := Cond.exactly_spec (flat_of_before _ hgv _ (lz_st q hq))
  exact ⟨a, vk_R.of (hts _ (lz_tx q hq)) he⟩
theorem lz_table (t : List ExceptionTableEntry) : ∃ hh : List (Nat × Nat × Nat × Nat), t = tableOf hh := ⟨t.map fun h => (h.startPc, h.endPc, h.handlerPc, h.catchType), (table_eq t).symm⟩
/-- a memory with nothing -/
def lz_mu : rj_M := (fun _ _ => 0, fun _ _ => 0, fun _ _ => 0, fun _ _ => 0)
set_option maxHeartbeats 4000000 in
set_option maxRecDepth 100000 in
theorem whole_start {p : Program} {e : Env} {s : State} {m : MethodId} {below : List Frame} {meth : Method} {c : Code} (l : Launch) (hflags : l.flags = flags0) {b L : Nat} {xs : Nat → Int32} (hL : L ≤ 3072) (C0 : lw_At p s m meth c b L xs) : W p l e room_1 s m #[Value.ref b] below meth c s.heap [] 0 0 (lw_Z below #[Value.ref b] s) (entryFrame m ([Value.ref b] : List Value).toArray 10) := by
  obtain ⟨hx, hb, hr, hml, hown, hts, hX, hbl, hlocks, hgv⟩ := id C0
  have hA : ∀ q : Nat, s.heap.size ≤ q → (fun q : Nat => s.heap.size ≤ q) q := fun _ h => h
  have hNA : ∀ a : Nat, a < s.heap.size → ¬ (fun q : Nat => s.heap.size ≤ q) a := fun a h => Nat.not_le.mpr h
  have hN : rj_N s := lz_N hts hgv
  obtain ⟨dC, dI, hKc⟩ : ∃ (dC : Nat → ClassId) (dI : Nat → Nat → Nat), ∀ (k : Nat) (q : vw_C), vwCl[k]? = some q → u_Kn s q.1 q.2.1 q.2.2 (dC k) (dI k) := by
    have h : ∀ k : Nat, ∃ (cC : ClassId) (iS : Nat → Nat), ∀ q : vw_C, vwCl[k]? = some q → u_Kn s q.1 q.2.1 q.2.2 cC iS := fun k => by
      rcases e0 : vwCl[k]? with _ | q0
      · exact ⟨0, fun _ => 0, fun q hq => by cases hq⟩
      · obtain ⟨cC, iS, hk⟩ := lz_known hts q0 (List.mem_of_getElem? e0)
        exact ⟨cC, iS, fun q hq => by cases hq; exact hk⟩
    exact ⟨fun k => Classical.choose (h k), fun k => Classical.choose (Classical.choose_spec (h k)), fun k q hq => Classical.choose_spec (Classical.choose_spec (h k)) q hq⟩
  obtain ⟨a0, ha0⟩ := lz_arr (hts _ lz_ac_int) (fun C z => by cases z)
  obtain ⟨a1, ha1⟩ := lz_arr (hts _ lz_ac_boolean) (fun C z => by cases z)
  obtain ⟨a2, ha2⟩ := lz_arr (hts _ lz_ac_long) (fun C z => by cases z)
  obtain ⟨a3, ha3⟩ := lz_arr (hts _ lz_ac_double) (fun C z => by cases z)
  obtain ⟨a4, ha4⟩ := lz_arrA hN.2.2.2.2.2.2
  obtain ⟨a5, ha5⟩ := lz_arrR hN.2.2.2.2.2.1
  obtain ⟨dA, e0, e1, e2, e3, e4, e5⟩ : ∃ dA : Nat → ClassId, dA 0 = a0 ∧ dA 1 = a1 ∧ dA 2 = a2 ∧ dA 3 = a3 ∧ dA 4 = a4 ∧ dA 5 = a5 := ⟨fun k => ([a0, a1, a2, a3, a4, a5] : List ClassId).getD k a0, rfl, rfl, rfl, rfl, rfl, rfl⟩
  subst e0; subst e1; subst e2; subst e3; subst e4; subst e5
  obtain ⟨g, hg⟩ : ∃ g : rj_G, g = (l, (dC, dI), dA) := ⟨_, rfl⟩
  have hg1 : g.1 = l := by rw [hg]
  have hty : ∀ q ∈ rj_ty g, ArrOfT s q.1 q.2 ∧ va_RA s q.1 q.2 := by
    rw [hg]
    exact List.forall_mem_cons.mpr ⟨ha0, List.forall_mem_cons.mpr ⟨ha1, List.forall_mem_cons.mpr ⟨ha2, List.forall_mem_cons.mpr ⟨ha3, List.forall_mem_cons.mpr ⟨ha4, List.forall_mem_cons.mpr ⟨ha5, fun _ h => nomatch h⟩⟩⟩⟩⟩⟩
  have hK : va_K g.2.1 vwCl (rj_ty g) s := ⟨fun k q hq => by rw [hg]; exact hKc k q hq, fun k q hq => hty q (List.mem_of_getElem? hq)⟩
  have hws : rj_ws g (0, rj_lay, fun _ => 0) lz_mu = [] := rfl
  have hP : va_P g.2.1 vwCl (rj_ws g (0, rj_lay, fun _ => 0) lz_mu) s.heap := fun k q h => by rw [hws] at h; simp at h
  have hD : va_D (fun q : Nat => s.heap.size ≤ q) (rj_ws g (0, rj_lay, fun _ => 0) lz_mu) := ⟨fun i j p q h => by rw [hws] at h; simp at h, fun k q h => by rw [hws] at h; simp at h⟩
  have hZ : rj_Z (fun q : Nat => s.heap.size ≤ q) s s.heap := ⟨vx_Zqof (hts _ lz_lsU) (hts _ lz_iniT) (flat_of_before _ hgv _ lz_rU) hNA, vx_Zqof (hts _ lz_lsS) (hts _ lz_iniT) (flat_of_before _ hgv _ lz_rS) hNA⟩
  have S : rj_S g (0, rj_lay, fun _ => 0) lz_mu (fun q : Nat => s.heap.size ≤ q) s s.heap [] := ⟨⟨hP, hK, hD⟩, va_S.rf, hA, hZ, hN⟩
  obtain ⟨hh, hhh⟩ := lz_table c.exceptionTable.toList
  have hst : g.1.stackTraces = false := by
    rw [hg1]
    unfold Launch.stackTraces
    rw [hflags]
    decide +kernel
  have C : rj_C g RL cL_law 10 ret lw_tbl hh p s m #[Value.ref b] meth c := ⟨hx, hb, hr, hml, hown, hts, hlocks, hst, hhh⟩
  have hl := lv_entry ([.ref b]) (n := 10) (Nat.le_of_ble_eq_true rfl)
  rw [lg_entry_eq]
  generalize (lg_sl ([.ref b]) ++ List.replicate (10 - (lg_sl ([.ref b])).length) Slot.unset).toArray = ls at hl ⊢
  have hl : lv_has ls 10 [(0, .ref b)] := hl
  have K := rl_begin (g := g) (hh := hh) (b := b) (L := L) (xs := xs) (ω := (0, rj_lay, fun _ => 0)) (μ := lz_mu) hL rfl rfl (fun _ _ => Nat.zero_le _) p e s m #[Value.ref b] below meth c s.heap [] (fun q : Nat => s.heap.size ≤ q) ls C S hl
  rw [hg1] at K
  intro T hT X
  obtain ⟨t, h1, h2⟩ := K T hT X
  exact ⟨t, h1, h2 ⟨rfl, hX, hbl, fun _ h => h⟩⟩
