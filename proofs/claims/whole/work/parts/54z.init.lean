/-! MAKING THE CELLS: a judgement for constructors (final fields are set there alone), new cells, closed worlds -/
def rj_RI (nm : Method → Prop) (g : rj_G) (own : String) (cc : ByteArray) (nL : Nat) (ret : Option FieldType) (ws : List Cond) (hh : List (Nat × Nat × Nat × Nat)) (rm : Room) (F : rj_F) (u : Nat) (ω : rj_W) (μ : rj_M) (l : List (Nat × Value)) (pc : Nat) (st : List Value) : Prop :=
  ∀ (p : Program) (e : Env) (s : State) (m : MethodId) (args : Array Value) (below : List Frame) (meth : Method) (c : Code) (H : Heap) (locs : List Loc) (A : Nat → Prop) (ls : Array Slot),
    rj_C g own cc nL ret ws hh p s m args meth c → nm meth → rj_S g ω μ A s H locs → lv_has ls nL l → W p g.1 e rm s m args below meth c H locs u (8 * u) (F below args s A) (F0 m pc ls st)
/-- a memory with nothing in the cell k -/
def rj_z (μ : rj_M) (k : Nat) : rj_M := (va_up μ.1 k (fun _ => 0), va_up μ.2.1 k (fun _ => 0), va_up μ.2.2.1 k (fun _ => 0), va_up μ.2.2.2 k (fun _ => 0))
theorem rj_z_ne {μ : rj_M} {k : Nat} : ∀ j, j ≠ k → rj_sm μ (rj_z μ k) j := fun j h => ⟨(va_up_ne _ _ h).symm, (va_up_ne _ _ h).symm, (va_up_ne _ _ h).symm, (va_up_ne _ _ h).symm⟩
/-- no cell names one that isn't there yet -/
def rj_cl1 (n : Nat) (μ : rj_M) (k : Nat) : rj_Sh → Prop
  | .inl q => 4 ≤ q.1 → ∀ i, μ.2.2.2 k i ≤ n
  | .inr q => ∀ r, some (some r) ∈ q.2 → r ≤ n
def rj_cl (ω : rj_W) (μ : rj_M) : Prop := ∀ k, k < ω.1 → rj_cl1 ω.1 μ k (ω.2.1 k)
theorem rj_rf_ad {ad ad' : Nat → Nat} {n r : Nat} (h : ∀ j, j < n → ad' j = ad j) (hr : r ≤ n) : rj_rf ad' r = rj_rf ad r := by
  cases r with
  | zero => rfl
  | succ r => simp [rj_rf, h r (by omega)]
theorem rj_fv_ad {ad ad' : Nat → Nat} {μ : rj_M} {k n : Nat} (h : ∀ j, j < n → ad' j = ad j) : ∀ (fs : List (Option (Option Nat))) (j : Nat), (∀ r, some (some r) ∈ fs → r ≤ n) → rj_fv ad' μ k j fs = rj_fv ad μ k j fs
  | [], _, _ => rfl
  | t :: r, j, hr => by
    simp only [rj_fv]
    rw [rj_fv_ad h r (j + 1) (fun x hx => hr x (List.mem_cons_of_mem _ hx))]
    congr 1
    rcases t with _ | _ | x
    · rfl
    · rfl
    · simp only [rj_v]
      rw [rj_rf_ad h (hr x List.mem_cons_self)]
theorem rj_en_ad {g : rj_G} {ad ad' : Nat → Nat} {μ : rj_M} {k n : Nat} (h : ∀ j, j < n → ad' j = ad j) {sh : rj_Sh} (hc : rj_cl1 n μ k sh) : rj_en g ad' μ k sh = rj_en g ad μ k sh := by
  rcases sh with ⟨kd, N⟩ | ⟨ci, fs⟩
  · simp only [rj_en]
    rcases kd with _ | _ | _ | _ | kd
    · rfl
    · rfl
    · rfl
    · rfl
    · have h2 : (fun i => rj_rf ad' (μ.2.2.2 k i)) = fun i => rj_rf ad (μ.2.2.2 k i) := funext fun i => rj_rf_ad h (hc (by show 4 ≤ kd + 4; omega) i)
      simp only [rj_av]
      rw [h2]
  · simp only [rj_en]
    rw [rj_fv_ad h fs 0 hc]
theorem rj_cl1.mono {n m : Nat} {μ μ' : rj_M} {k : Nat} {sh : rj_Sh} (h : rj_cl1 n μ k sh) (hm : n ≤ m) (he : μ'.2.2.2 k = μ.2.2.2 k) : rj_cl1 m μ' k sh := by
  rcases sh with ⟨kd, N⟩ | ⟨ci, fs⟩
  · intro h4 i
    rw [he]
    exact Nat.le_trans (h h4 i) hm
  · intro r hr
    exact Nat.le_trans (h r hr) hm
/-- the world with one cell more, of the shape that stands for it -/
def rj_w1 (ω : rj_W) (sh : rj_Sh) (a : Nat) : rj_W := (ω.1 + 1, va_up ω.2.1 ω.1 sh, va_up ω.2.2 ω.1 a)
theorem rj_w1_ws {g : rj_G} {ω : rj_W} {μ : rj_M} {sh : rj_Sh} {a : Nat} (hc : rj_cl ω μ) : rj_ws g (rj_w1 ω sh a) (rj_z μ ω.1) = rj_ws g ω μ ++ [(a, rj_en g (va_up ω.2.2 ω.1 a) (rj_z μ ω.1) ω.1 sh)] := by
  unfold rj_ws
  show (List.range (ω.1 + 1)).map _ = _
  rw [List.range_succ, List.map_append]
  congr 1
  · apply List.map_congr_left
    intro k hk
    have hk := List.mem_range.mp hk
    have hne : k ≠ ω.1 := by omega
    show (va_up ω.2.2 ω.1 a k, rj_en g (va_up ω.2.2 ω.1 a) (rj_z μ ω.1) k (va_up ω.2.1 ω.1 sh k)) = _
    rw [va_up_ne _ _ hne, va_up_ne _ _ hne, ← rj_en_congr (rj_z_ne k hne), rj_en_ad (n := ω.1) (fun j hj => va_up_ne _ _ (by omega)) (hc k hk)]
  · show [(va_up ω.2.2 ω.1 a ω.1, rj_en g (va_up ω.2.2 ω.1 a) (rj_z μ ω.1) ω.1 (va_up ω.2.1 ω.1 sh ω.1))] = _
    rw [va_up_self, va_up_self]
theorem rj_w1_cl {ω : rj_W} {μ : rj_M} {sh : rj_Sh} {a : Nat} (hc : rj_cl ω μ) (hs : rj_cl1 ω.1 (rj_z μ ω.1) ω.1 sh) : rj_cl (rj_w1 ω sh a) (rj_z μ ω.1) := by
  intro k hk
  have hk : k < ω.1 + 1 := hk
  show rj_cl1 (ω.1 + 1) (rj_z μ ω.1) k (va_up ω.2.1 ω.1 sh k)
  by_cases e : k = ω.1
  · subst e
    rw [va_up_self]
    exact hs.mono (Nat.le_succ _) rfl
  · rw [va_up_ne _ _ e]
    exact (hc k (by omega)).mono (Nat.le_succ _) (va_up_ne _ _ e)
theorem rj_z_cl {μ : rj_M} {k : Nat} {q : Nat × Nat} : rj_cl1 k (rj_z μ k) k (.inl q) := by
  intro _ i
  show va_up μ.2.2.2 k (fun _ => 0) k i ≤ k
  rw [va_up_self]
  exact Nat.zero_le _
section rjInit
variable {nm : Method → Prop} {g : rj_G} {own : String} {cc : ByteArray} {nL : Nat} {ret : Option FieldType} {ws : List Cond} {hh : List (Nat × Nat × Nat × Nat)} {rm : Room} {F : rj_F} {u : Nat} {ω : rj_W} {μ : rj_M} {l : List (Nat × Value)} {pc q : Nat} {st : List Value}
theorem rj_RI.of (h : rj_R g own cc nL ret ws hh rm F u ω μ l pc st) : rj_RI nm g own cc nL ret ws hh rm F u ω μ l pc st := fun p e s m args below meth c H locs A ls C _ S hl => h p e s m args below meth c H locs A ls C S hl
theorem rj_RI.R (h : rj_RI (fun _ => True) g own cc nL ret ws hh rm F u ω μ l pc st) : rj_R g own cc nL ret ws hh rm F u ω μ l pc st := fun p e s m args below meth c H locs A ls C S hl => h p e s m args below meth c H locs A ls C trivial S hl
theorem ri_aload_n {i : Fin 4} {x : Nat} (j : Nat) (hd : decode cc pc = .ok (.aload_n i, 1)) (hq : pc + 1 = q) (hl : l[j]? = some ((i : Nat), .ref x)) (k : rj_RI nm g own cc nL ret ws hh rm F u ω μ l q (.ref x :: st)) : rj_RI nm g own cc nL ret ws hh rm F u ω μ l pc st := by
  subst hq
  exact fun p e s m args below meth c H locs A ls C N S h => lv_aload_n C.1 C.2.1 hd rfl (lv_at h j hl) (k p e s m args below meth c H locs A ls C N S h)
theorem ri_iconst {n : Int} {v : Int32} (hd : decode cc pc = .ok (.iconst n, 1)) (hq : pc + 1 = q) (hv : Int32.ofInt n = v) (k : rj_RI nm g own cc nL ret ws hh rm F u ω μ l q (.int v :: st)) : rj_RI nm g own cc nL ret ws hh rm F u ω μ l pc st := by
  subst hq
  exact fun p e s m args below meth c H locs A ls C N S h => lv_iconst C.1 C.2.1 hd hv (k p e s m args below meth c H locs A ls C N S h)
theorem ri_bipush {n : Int} {v : Int32} (hd : decode cc pc = .ok (.bipush n, 2)) (hq : pc + 2 = q) (hv : (Int8.ofInt n).toInt32 = v) (k : rj_RI nm g own cc nL ret ws hh rm F u ω μ l q (.int v :: st)) : rj_RI nm g own cc nL ret ws hh rm F u ω μ l pc st := by
  subst hq
  exact fun p e s m args below meth c H locs A ls C N S h => lv_bipush C.1 C.2.1 hd hv (k p e s m args below meth c H locs A ls C N S h)
theorem ri_sipush {n : Int} {v : Int32} (hd : decode cc pc = .ok (.sipush n, 3)) (hq : pc + 3 = q) (hv : (Int16.ofInt n).toInt32 = v) (k : rj_RI nm g own cc nL ret ws hh rm F u ω μ l q (.int v :: st)) : rj_RI nm g own cc nL ret ws hh rm F u ω μ l pc st := by
  subst hq
  exact fun p e s m args below meth c H locs A ls C N S h => lv_sipush C.1 C.2.1 hd hv (k p e s m args below meth c H locs A ls C N S h)
theorem ri_lconst {n : Fin 2} {v : Int64} (hd : decode cc pc = .ok (.lconst n, 1)) (hq : pc + 1 = q) (hv : Int64.ofNat (n : Nat) = v) (k : rj_RI nm g own cc nL ret ws hh rm F u ω μ l q (.long v :: st)) : rj_RI nm g own cc nL ret ws hh rm F u ω μ l pc st := by
  subst hq
  exact fun p e s m args below meth c H locs A ls C N S h => lv_lconst C.1 C.2.1 hd hv (k p e s m args below meth c H locs A ls C N S h)
theorem ri_dup {v : Value} (hd : decode cc pc = .ok (.dup, 1)) (hq : pc + 1 = q) (hv : v.category = 1) (k : rj_RI nm g own cc nL ret ws hh rm F u ω μ l q (v :: v :: st)) : rj_RI nm g own cc nL ret ws hh rm F u ω μ l pc (v :: st) := by
  subst hq
  exact fun p e s m args below meth c H locs A ls C N S h => lv_dup C.1 C.2.1 hd hv (k p e s m args below meth c H locs A ls C N S h)
theorem ri_obj {idx : Nat} {a : Nat} (hd : decode cc pc = .ok (.invokespecial idx, 3)) (hq : pc + 3 = q) (h1 : Cond.methodLink own idx Lib.objectInit ∈ ws) (h2 : Cond.instanceMethod Lib.objectInit ∈ ws) (h3 : Cond.code Lib.objectInit ⟨#[0xb1]⟩ 1 none ∈ ws) (hf : 1 ≤ rm.frames) (hlo : 20 ≤ rm.locals) (hW : (st.map fun v => v.category).sum ≤ 8) (k : rj_RI nm g own cc nL ret ws hh rm F u ω μ l q st) : rj_RI nm g own cc nL ret ws hh rm F u ω μ l pc (.ref a :: st) := by
  subst hq
  exact fun p e s m args below meth c H locs A ls C N S h => W.objInit C.1 C.2.1 C.2.2.2.2.1 (C.2.2.2.2.2.1 _ h1) (C.2.2.2.2.2.1 _ h2) (C.2.2.2.2.2.1 _ h3) (g := F0 m pc ls (.ref a :: st)) rfl (h.1.trans C.2.2.2.1.symm) rfl hd hf (Nat.le_trans (Nat.add_le_add_right (lv_room hW) 12) hlo) (k p e s m args below meth c H locs A ls C N S h)
end rjInit
theorem rj_fv_z {ad : Nat → Nat} {μ : rj_M} {k : Nat} : ∀ (fs : List (Option (Option Nat))) (j : Nat), rj_fv ad (rj_z μ k) k j fs = fs.map (fun t => match t with | none => Value.int 0 | some none => Value.long 0 | some (some r) => va_rf (rj_rf ad r))
  | [], _ => rfl
  | t :: r, j => by
    simp only [rj_fv, List.map_cons]
    rw [rj_fv_z r (j + 1)]
    congr 1
    rcases t with _ | _ | x <;> simp [rj_v, rj_z, va_up_self]
section rjInit2
variable {nm : Method → Prop} {g : rj_G} {own : String} {cc : ByteArray} {nL : Nat} {ret : Option FieldType} {ws : List Cond} {hh : List (Nat × Nat × Nat × Nat)} {rm : Room} {F : rj_F} {u : Nat} {ω : rj_W} {μ : rj_M} {pc q : Nat} {L : (Nat → Nat) → List (Nat × Value)} {ST : (Nat → Nat) → List Value}
theorem ri_newarr {aty : ArrayType} {n : Int32} {kd N K : Nat} (hd : decode cc pc = .ok (.newarray aty, 2)) (hq : pc + 2 = q) (hac : Cond.arrayClass (newarray.typeOf aty) ∈ ws) (hty : (rj_ty g)[kd]? = some (g.2.2 kd, newarray.typeOf aty)) (hn : ¬ n < 0) (hN : n.toNatClampNeg = N) (hz : ∀ (ad : Nat → Nat) (cA : ClassId), vp_cell cA (rj_av ad (rj_z μ ω.1) ω.1 N kd) = arrV cA N (fun _ => defaultValue (newarray.typeOf aty))) (hby : N * componentBytes (newarray.typeOf aty) ≤ 536870912) (hK1 : 1 ≤ K) (hK : N ≤ 8 * K) (hu : u + K ≤ rm.cells) (hs : 8 * (u + K) ≤ rm.slots) (hcl : rj_cl ω μ)
    (hl : ∀ ad : Nat → Nat, (∀ j, j < ω.1 → ad j = ω.2.2 j) → L ad = L ω.2.2) (hst : ∀ ad : Nat → Nat, (∀ j, j < ω.1 → ad j = ω.2.2 j) → ST ad = ST ω.2.2)
    (kk : ∀ a : Nat, rj_RI nm g own cc nL ret ws hh rm F (u + K) (rj_w1 ω (.inl (kd, N)) a) (rj_z μ ω.1) (L (rj_w1 ω (.inl (kd, N)) a).2.2) q (.ref ((rj_w1 ω (.inl (kd, N)) a).2.2 ω.1) :: ST (rj_w1 ω (.inl (kd, N)) a).2.2)) : rj_RI nm g own cc nL ret ws hh rm F u ω μ (L ω.2.2) pc (.int n :: ST ω.2.2) := by
  subst hq
  intro p e s m args below meth c H locs A ls C N0 S h
  refine va_newa (D := g.2.1) (tys := rj_ty g) (a0 := rj_av ω.2.2 (rj_z μ ω.1) ω.1 N kd) C.1 C.2.1 (C.2.2.2.2.2.1 _ hac) rfl S.1.2.1 S.1.1 S.1.2.2 S.2.1 S.2.2.1 (hz ω.2.2) hn hN hby (by omega) (by omega) hd (fun a cA H1 hK' hP hD hS => ?_)
  have hcA : cA = g.2.2 kd := by
    have e1 := (hK'.2 (rj_ty g).length (cA, newarray.typeOf aty) (by simp)).2
    have e2 := (S.1.2.1.2 kd _ hty).2
    cases aty <;> exact Option.some.inj (e1.symm.trans e2)
  subst hcA
  have hag : ∀ j, j < ω.1 → (rj_w1 ω (.inl (kd, N)) a).2.2 j = ω.2.2 j := fun j hj => va_up_ne _ _ (by omega)
  have hw : rj_ws g (rj_w1 ω (.inl (kd, N)) a) (rj_z μ ω.1) = rj_ws g ω μ ++ [(a, .inl (g.2.2 kd, rj_av ω.2.2 (rj_z μ ω.1) ω.1 N kd))] := by
    rw [rj_w1_ws hcl, rj_en_ad (n := ω.1) (ad := ω.2.2) (fun j hj => va_up_ne _ _ (by omega)) rj_z_cl]
    rfl
  rw [← hw] at hP hD
  have hx := kk a p e s m args below meth c H1 locs A ls C N0 ⟨⟨hP, S.1.2.1, hD⟩, hS, S.2.2⟩ (by rw [hl _ hag]; exact h)
  rw [hst _ hag, show (rj_w1 ω (.inl (kd, N)) a).2.2 ω.1 = a from va_up_self _ _ _] at hx
  exact W.widen (by omega) (by omega) hx
theorem ri_new {C0 : String} {T : u_T} {N ci idx K : Nat} {nl : List (Option (Option Nat))} (hd : decode cc pc = .ok (.new idx, 3)) (hq : pc + 3 = q) (hin : ∀ w ∈ u_ws C0 T N, w ∈ ws) (hc : vwCl[ci]? = some (C0, T, N)) (ty : Nat → FieldType) (hty : ∀ k, k < N → parseFieldDescriptor (T k).2.2.1 = some (ty k)) (h1 : Cond.classLink own idx C0 ∈ ws) (h2 : Cond.instantiable C0 N ∈ ws) (h3 : Cond.initialized C0 ∈ ws)
    (hnl : ∀ r, some (some r) ∈ nl → r = 0) (hfs : ∀ j, j < N → defaultValue (ty j) = vp_V (nl.map (fun t => match t with | none => Value.int 0 | some none => Value.long 0 | some (some _) => Value.null)) j) (hK1 : 1 ≤ K) (hK : N ≤ 8 * K) (hu : u + K ≤ rm.cells) (hs : 8 * (u + K) ≤ rm.slots) (hcl : rj_cl ω μ)
    (hl : ∀ ad : Nat → Nat, (∀ j, j < ω.1 → ad j = ω.2.2 j) → L ad = L ω.2.2) (hst : ∀ ad : Nat → Nat, (∀ j, j < ω.1 → ad j = ω.2.2 j) → ST ad = ST ω.2.2)
    (kk : ∀ a : Nat, rj_RI nm g own cc nL ret ws hh rm F (u + K) (rj_w1 ω (.inr (ci, nl)) a) (rj_z μ ω.1) (L (rj_w1 ω (.inr (ci, nl)) a).2.2) q (.ref ((rj_w1 ω (.inr (ci, nl)) a).2.2 ω.1) :: ST (rj_w1 ω (.inr (ci, nl)) a).2.2)) : rj_RI nm g own cc nL ret ws hh rm F u ω μ (L ω.2.2) pc (ST ω.2.2) := by
  subst hq
  intro p e s m args below meth c H locs A ls C N0 S h
  have hfv : rj_fv ω.2.2 (rj_z μ ω.1) ω.1 0 nl = nl.map (fun t => match t with | none => Value.int 0 | some none => Value.long 0 | some (some _) => Value.null) := by
    rw [rj_fv_z]
    apply List.map_congr_left
    intro t ht
    rcases t with _ | _ | r
    · rfl
    · rfl
    · rw [hnl r ht]
      rfl
  refine va_new (D := g.2.1) (tys := rj_ty g) (fs := rj_fv ω.2.2 (rj_z μ ω.1) ω.1 0 nl) C.1 C.2.1 C.2.2.2.2.2.1 hin ty hty C.2.2.2.2.1 (C.2.2.2.2.2.1 _ h1) (C.2.2.2.2.2.1 _ h2) (C.2.2.2.2.2.1 _ h3) S.1.2.1 S.1.1 S.1.2.2 S.2.1 S.2.2.1 hc (by rw [hfv]; exact hfs) (by omega) (by omega) hd (fun a H1 hP hD hS => ?_)
  have hag : ∀ j, j < ω.1 → (rj_w1 ω (.inr (ci, nl)) a).2.2 j = ω.2.2 j := fun j hj => va_up_ne _ _ (by omega)
  have hw : rj_ws g (rj_w1 ω (.inr (ci, nl)) a) (rj_z μ ω.1) = rj_ws g ω μ ++ [(a, .inr (ci, rj_fv ω.2.2 (rj_z μ ω.1) ω.1 0 nl))] := by
    have hz : rj_en g (va_up ω.2.2 ω.1 a) (rj_z μ ω.1) ω.1 (.inr (ci, nl)) = rj_en g ω.2.2 (rj_z μ ω.1) ω.1 (.inr (ci, nl)) := rj_en_ad (n := ω.1) (fun j hj => va_up_ne _ _ (Nat.ne_of_lt hj)) (show ∀ r, some (some r) ∈ nl → r ≤ ω.1 from fun r hr => Nat.le_trans (Nat.le_of_eq (hnl r hr)) (Nat.zero_le _))
    rw [rj_w1_ws hcl, hz]
    rfl
  rw [← hw] at hP hD
  have hx := kk a p e s m args below meth c H1 locs A ls C N0 ⟨⟨hP, S.1.2.1, hD⟩, hS, S.2.2⟩ (by rw [hl _ hag]; exact h)
  rw [hst _ hag, show (rj_w1 ω (.inr (ci, nl)) a).2.2 ω.1 = a from va_up_self _ _ _] at hx
  exact W.widen (by omega) (by omega) hx
/-- a final field of a new object is set to the cell r -/
theorem ri_putQ {C0 : String} {T : u_T} {N ci idx k j r : Nat} {fs : List (Option (Option Nat))} {l : List (Nat × Value)} {st : List Value} (hd : decode cc pc = .ok (.putfield idx, 3)) (hq : pc + 3 = q) (hin : ∀ w ∈ u_ws C0 T N, w ∈ ws) (hc : vwCl[ci]? = some (C0, T, N)) (hk : k < ω.1) (hs : ω.2.1 k = .inr (ci, fs)) (hj : j < N) (hl : Cond.fieldLink own idx (T j).1 (T j).2.1 (T j).2.2.1 ∈ ws) (ty : Nat → FieldType) (hty : ∀ k, k < N → parseFieldDescriptor (T k).2.2.1 = some (ty k)) (hnm : ∀ a, a < N → ∀ b, b < N → a ≠ b → (T a).2.1 ≠ (T b).2.1) (hfin : (T j).2.2.2 = true) (hnmi : ∀ m : Method, nm m → m.name = "<init>") (hdecl : (T j).1 = own) (hjl : j < fs.length) (hf : ∃ t, fs[j]? = some (some (some t))) (hn : ∀ a : Nat, narrow (ty j) (.ref a) = .ref a) (hft : ∀ a : Nat, fits (ty j) (.ref a) = true)
    (kk : rj_RI nm g own cc nL ret ws hh rm F u (ω.1, va_up ω.2.1 k (.inr (ci, fs.set j (some (some (r + 1))))), ω.2.2) μ l q st) : rj_RI nm g own cc nL ret ws hh rm F u ω μ l pc (.ref (ω.2.2 r) :: .ref (ω.2.2 k) :: st) := by
  subst hq
  obtain ⟨t, hf⟩ := hf
  have he : (Sum.inr (ci, (rj_fv ω.2.2 μ k 0 fs).set j (.ref (ω.2.2 r))) : va_E) = rj_en g ω.2.2 μ k (.inr (ci, fs.set j (some (some (r + 1))))) := by
    simp only [rj_en]
    congr 2
    apply List.ext_getElem?
    intro i
    rw [rj_fv_get]
    have hlen : j < (rj_fv ω.2.2 μ k 0 fs).length := by
      have h1 := rj_fv_get ω.2.2 μ k fs 0 j
      rw [hf] at h1
      exact (List.getElem?_eq_some_iff.mp h1).1
    by_cases hi : i = j
    · subst hi
      rw [List.getElem?_set_self hlen, List.getElem?_set_self hjl]
      rfl
    · rw [List.getElem?_set_ne (Ne.symm hi), List.getElem?_set_ne (Ne.symm hi), rj_fv_get]
  have hset : (rj_ws g ω μ).set k (ω.2.2 k, rj_en g ω.2.2 μ k (.inr (ci, fs.set j (some (some (r + 1)))))) = rj_ws g (ω.1, va_up ω.2.1 k (.inr (ci, fs.set j (some (some (r + 1))))), ω.2.2) μ := by
    apply List.ext_getElem?
    intro i
    by_cases hi : i = k
    · subst hi
      rw [List.getElem?_set_self (by simp [rj_ws, hk]), rj_at (ω := (ω.1, va_up ω.2.1 i (.inr (ci, fs.set j (some (some (r + 1))))), ω.2.2)) hk (va_up_self _ _ _)]
    · rw [List.getElem?_set_ne (Ne.symm hi)]
      by_cases hlt : i < ω.1
      · rw [rj_at hlt rfl, rj_at (ω := (ω.1, va_up ω.2.1 k (.inr (ci, fs.set j (some (some (r + 1))))), ω.2.2)) hlt (va_up_ne _ _ hi)]
      · simp [rj_ws, hlt]
  refine fun p e s m args below meth c H locs A ls C N0 S h => va_putF (D := g.2.1) (tys := rj_ty g) C.1 C.2.1 C.2.2.2.2.2.1 hin ty hty hnm C.2.2.2.2.1 S.1.2.1 S.1.1 S.1.2.2 S.2.1 k (rj_at hk hs) hc j hj (C.2.2.2.2.2.1 _ hl) (fun _ z => z) hfin (hnmi _ N0) hdecl (hty j hj) (hn _) (hft _) ?_ hd (fun H1 locs1 hP hD hS => ?_)
  · have h1 := rj_fv_get ω.2.2 μ k fs 0 j
    rw [hf] at h1
    exact (List.getElem?_eq_some_iff.mp h1).1
  · rw [he, hset] at hP hD
    exact kk p e s m args below meth c H1 locs1 A ls C N0 ⟨⟨hP, S.1.2.1, hD⟩, hS, S.2.2⟩ h
theorem ri_putI {C0 : String} {T : u_T} {N ci idx k j : Nat} {fs : List (Option (Option Nat))} {v : Int32} {l : List (Nat × Value)} {st : List Value} (hd : decode cc pc = .ok (.putfield idx, 3)) (hq : pc + 3 = q) (hin : ∀ w ∈ u_ws C0 T N, w ∈ ws) (hc : vwCl[ci]? = some (C0, T, N)) (hk : k < ω.1) (hs : ω.2.1 k = .inr (ci, fs)) (hj : j < N) (hl : Cond.fieldLink own idx (T j).1 (T j).2.1 (T j).2.2.1 ∈ ws) (ty : Nat → FieldType) (hty : ∀ k, k < N → parseFieldDescriptor (T k).2.2.1 = some (ty k)) (hnm : ∀ a, a < N → ∀ b, b < N → a ≠ b → (T a).2.1 ≠ (T b).2.1) (hfin : (T j).2.2.2 = false) (hf : fs[j]? = some (none)) (hn : narrow (ty j) (.int v) = .int v) (hft : fits (ty j) (.int v) = true) (kk : rj_RI nm g own cc nL ret ws hh rm F u ω (rj_pi μ k j v) l q st) : rj_RI nm g own cc nL ret ws hh rm F u ω μ l pc (.int v :: .ref (ω.2.2 k) :: st) := by
  subst hq
  refine fun p e s m args below meth c H locs A ls C N0 S h => va_put (D := g.2.1) (tys := rj_ty g) C.1 C.2.1 C.2.2.2.2.2.1 hin ty hty hnm C.2.2.2.2.1 S.1.2.1 S.1.1 S.1.2.2 S.2.1 k (rj_at hk hs) hc j hj (C.2.2.2.2.2.1 _ hl) (fun _ z => z) hfin (hty j hj) hn hft ?_ hd (fun H1 locs1 hP hD hS => ?_)
  · have h1 := rj_fv_get ω.2.2 μ k fs 0 j
    rw [hf] at h1
    exact (List.getElem?_eq_some_iff.mp h1).1
  · rw [rj_set (μ' := rj_pi μ k j v) hk (by rw [hs, rj_fv_pi hf]; rfl) rj_pi_ne] at hP hD
    exact kk p e s m args below meth c H1 locs1 A ls C N0 ⟨⟨hP, S.1.2.1, hD⟩, hS, S.2.2⟩ h
theorem ri_putL {C0 : String} {T : u_T} {N ci idx k j : Nat} {fs : List (Option (Option Nat))} {v : Int64} {l : List (Nat × Value)} {st : List Value} (hd : decode cc pc = .ok (.putfield idx, 3)) (hq : pc + 3 = q) (hin : ∀ w ∈ u_ws C0 T N, w ∈ ws) (hc : vwCl[ci]? = some (C0, T, N)) (hk : k < ω.1) (hs : ω.2.1 k = .inr (ci, fs)) (hj : j < N) (hl : Cond.fieldLink own idx (T j).1 (T j).2.1 (T j).2.2.1 ∈ ws) (ty : Nat → FieldType) (hty : ∀ k, k < N → parseFieldDescriptor (T k).2.2.1 = some (ty k)) (hnm : ∀ a, a < N → ∀ b, b < N → a ≠ b → (T a).2.1 ≠ (T b).2.1) (hfin : (T j).2.2.2 = false) (hf : fs[j]? = some (some none)) (hn : narrow (ty j) (.long v) = .long v) (hft : fits (ty j) (.long v) = true) (kk : rj_RI nm g own cc nL ret ws hh rm F u ω (rj_pl μ k j v) l q st) : rj_RI nm g own cc nL ret ws hh rm F u ω μ l pc (.long v :: .ref (ω.2.2 k) :: st) := by
  subst hq
  refine fun p e s m args below meth c H locs A ls C N0 S h => va_put (D := g.2.1) (tys := rj_ty g) C.1 C.2.1 C.2.2.2.2.2.1 hin ty hty hnm C.2.2.2.2.1 S.1.2.1 S.1.1 S.1.2.2 S.2.1 k (rj_at hk hs) hc j hj (C.2.2.2.2.2.1 _ hl) (fun _ z => z) hfin (hty j hj) hn hft ?_ hd (fun H1 locs1 hP hD hS => ?_)
  · have h1 := rj_fv_get ω.2.2 μ k fs 0 j
    rw [hf] at h1
    exact (List.getElem?_eq_some_iff.mp h1).1
  · rw [rj_set (μ' := rj_pl μ k j v) hk (by rw [hs, rj_fv_pl hf]; rfl) rj_pl_ne] at hP hD
    exact kk p e s m args below meth c H1 locs1 A ls C N0 ⟨⟨hP, S.1.2.1, hD⟩, hS, S.2.2⟩ h
end rjInit2
/-- entries of constructors -/
theorem ri_of {g : rj_G} {y : MethodName} {own : String} {cc : ByteArray} {nL : Nat} {ret : Option FieldType} {ws ws' : List Cond} {rm : Room} {av : List Value} {ω : rj_W} {μ : rj_M} {P : rj_P} {l0 : List (Nat × Value)} (hw : ws = Cond.code y cc nL ret :: ws') (hy : plainName y.cls = true) (hown : y.cls = own) (hnm : y.name = "<init>") (hn : (lg_sl av).length ≤ nL) (hl : lv_args 0 av = l0) (K : rj_RI (fun m => m.name = "<init>") g own cc nL ret ws [] rm (rj_E g rm P) 0 ω μ l0 0 []) : rj_Sp g y ws rm av ω μ P := by
  subst hl
  intro hl sz
  refine vx_ofW (cc := cc) (maxL := nL) (ret := ret) hy hw ?_
  intro p e s m args below meth c s₁ B hml hx hv
  obtain ⟨rfl, hsz, hH, hZ, hN⟩ := hv
  subst hsz
  have hts := atoms_spec (ws := ws) B.pre
  have hlv := lv_entry av (n := nL) hn
  rw [lg_entry_eq]
  exact K p e s m _ below meth c s.heap [] _ _ ⟨B.exec, B.bytes, B.returns, hml, by rw [← hown]; exact findClass_of_methodNamed B.named, hts, B.notSynchronized, hl, List.eq_nil_iff_forall_not_mem.mpr hx⟩ (by rw [← hnm]; exact (name_of_methodNamed B.named B.method).1) ⟨hH, va_S.rf, fun q h => Or.inr h, hZ, hN⟩ hlv

theorem va_up_id {α : Type} {f : Nat → α} {k : Nat} {v : α} (h : f k = v) : va_up f k v = f := by
  funext j
  by_cases e : j = k
  · subst e
    rw [va_up_self, h]
  · rw [va_up_ne _ _ e]
theorem va_up_up {α : Type} {f : Nat → α} {k : Nat} {v w : α} : va_up (va_up f k v) k w = va_up f k w := by
  funext j
  by_cases e : j = k
  · subst e
    rw [va_up_self, va_up_self]
  · rw [va_up_ne _ _ e, va_up_ne _ _ e, va_up_ne _ _ e]
theorem rj_cl_put {ω : rj_W} {μ : rj_M} {k ci r j : Nat} {fs : List (Option (Option Nat))} (hc : rj_cl ω μ) (hk : k < ω.1) (hs : ω.2.1 k = .inr (ci, fs)) (hr : r < ω.1) : rj_cl (ω.1, va_up ω.2.1 k (.inr (ci, fs.set j (some (some (r + 1))))), ω.2.2) μ := by
  intro i hi
  show rj_cl1 ω.1 μ i (va_up ω.2.1 k (.inr (ci, fs.set j (some (some (r + 1))))) i)
  by_cases e : i = k
  · subst e
    rw [va_up_self]
    intro x hx
    rcases List.mem_or_eq_of_mem_set hx with h | h
    · have h2 := hc i hk
      rw [hs] at h2
      exact h2 x h
    · cases h
      omega
  · rw [va_up_ne _ _ e]
    exact hc i hi
/-- a memory that names the same cells -/
theorem rj_cl.same {ω : rj_W} {μ μ' : rj_M} (hc : rj_cl ω μ) (h : μ'.2.2.2 = μ.2.2.2) : rj_cl ω μ' := fun k hk => (hc k hk).mono (Nat.le_refl _) (congrFun h k)
section rjInit3
variable {nm : Method → Prop} {g : rj_G} {own : String} {cc : ByteArray} {nL : Nat} {ret : Option FieldType} {ws : List Cond} {hh : List (Nat × Nat × Nat × Nat)} {rm : Room} {F : rj_F} {u : Nat} {ω : rj_W} {μ : rj_M} {pc q : Nat} {L : (Nat → Nat) → List (Nat × Value)} {ST : (Nat → Nat) → List Value}
theorem ri_newA {aty : ArrayType} {n : Int32} {kd N K : Nat} (hd : decode cc pc = .ok (.newarray aty, 2)) (hq : pc + 2 = q) (hac : Cond.arrayClass (newarray.typeOf aty) ∈ ws) (hty : (rj_ty g)[kd]? = some (g.2.2 kd, newarray.typeOf aty)) (hn : ¬ n < 0) (hN : n.toNatClampNeg = N) (hz : ∀ (ad : Nat → Nat) (cA : ClassId), vp_cell cA (rj_av ad (rj_z μ ω.1) ω.1 N kd) = arrV cA N (fun _ => defaultValue (newarray.typeOf aty))) (hby : N * componentBytes (newarray.typeOf aty) ≤ 536870912) (hK1 : 1 ≤ K) (hK : N ≤ 8 * K) (hu : u + K ≤ rm.cells) (hs : 8 * (u + K) ≤ rm.slots) (hcl : rj_cl ω μ) (hsh : ω.2.1 ω.1 = .inl (kd, N))
    (hl : ∀ ad : Nat → Nat, (∀ j, j < ω.1 → ad j = ω.2.2 j) → L ad = L ω.2.2) (hst : ∀ ad : Nat → Nat, (∀ j, j < ω.1 → ad j = ω.2.2 j) → ST ad = ST ω.2.2)
    (kk : ∀ ω1 : rj_W, ω1.1 = ω.1 + 1 → ω1.2.1 = ω.2.1 → (∀ j, j < ω.1 → ω1.2.2 j = ω.2.2 j) → rj_cl ω1 (rj_z μ ω.1) → rj_RI nm g own cc nL ret ws hh rm F (u + K) ω1 (rj_z μ ω.1) (L ω1.2.2) q (.ref (ω1.2.2 ω.1) :: ST ω1.2.2)) : rj_RI nm g own cc nL ret ws hh rm F u ω μ (L ω.2.2) pc (.int n :: ST ω.2.2) :=
  ri_newarr hd hq hac hty hn hN hz hby hK1 hK hu hs hcl hl hst (fun a => kk _ rfl (va_up_id hsh) (fun j hj => va_up_ne _ _ (by omega)) (rj_w1_cl hcl rj_z_cl))
theorem ri_newO {C0 : String} {T : u_T} {N ci idx K : Nat} {nl : List (Option (Option Nat))} (hd : decode cc pc = .ok (.new idx, 3)) (hq : pc + 3 = q) (hin : ∀ w ∈ u_ws C0 T N, w ∈ ws) (hc : vwCl[ci]? = some (C0, T, N)) (ty : Nat → FieldType) (hty : ∀ k, k < N → parseFieldDescriptor (T k).2.2.1 = some (ty k)) (h1 : Cond.classLink own idx C0 ∈ ws) (h2 : Cond.instantiable C0 N ∈ ws) (h3 : Cond.initialized C0 ∈ ws)
    (hnl : ∀ r, some (some r) ∈ nl → r = 0) (hfs : ∀ j, j < N → defaultValue (ty j) = vp_V (nl.map (fun t => match t with | none => Value.int 0 | some none => Value.long 0 | some (some _) => Value.null)) j) (hK1 : 1 ≤ K) (hK : N ≤ 8 * K) (hu : u + K ≤ rm.cells) (hs : 8 * (u + K) ≤ rm.slots) (hcl : rj_cl ω μ)
    (hl : ∀ ad : Nat → Nat, (∀ j, j < ω.1 → ad j = ω.2.2 j) → L ad = L ω.2.2) (hst : ∀ ad : Nat → Nat, (∀ j, j < ω.1 → ad j = ω.2.2 j) → ST ad = ST ω.2.2)
    (kk : ∀ ω1 : rj_W, ω1.1 = ω.1 + 1 → ω1.2.1 = va_up ω.2.1 ω.1 (.inr (ci, nl)) → (∀ j, j < ω.1 → ω1.2.2 j = ω.2.2 j) → rj_cl ω1 (rj_z μ ω.1) → rj_RI nm g own cc nL ret ws hh rm F (u + K) ω1 (rj_z μ ω.1) (L ω1.2.2) q (.ref (ω1.2.2 ω.1) :: ST ω1.2.2)) : rj_RI nm g own cc nL ret ws hh rm F u ω μ (L ω.2.2) pc (ST ω.2.2) :=
  ri_new hd hq hin hc ty hty h1 h2 h3 hnl hfs hK1 hK hu hs hcl hl hst (fun a => kk _ rfl rfl (fun j hj => va_up_ne _ _ (by omega)) (rj_w1_cl hcl (fun r hr => by rw [hnl r hr]; exact Nat.zero_le _)))
theorem ri_putF {C0 : String} {T : u_T} {N ci idx k j r : Nat} {fs fs1 : List (Option (Option Nat))} {sf : Nat → rj_Sh} (hd : decode cc pc = .ok (.putfield idx, 3)) (hq : pc + 3 = q) (hin : ∀ w ∈ u_ws C0 T N, w ∈ ws) (hc : vwCl[ci]? = some (C0, T, N)) (hk : k < ω.1) (hr : r < ω.1) (hs : ω.2.1 = va_up sf k (.inr (ci, fs))) (hj : j < N) (hl : Cond.fieldLink own idx (T j).1 (T j).2.1 (T j).2.2.1 ∈ ws) (ty : Nat → FieldType) (hty : ∀ k, k < N → parseFieldDescriptor (T k).2.2.1 = some (ty k)) (hnm : ∀ a, a < N → ∀ b, b < N → a ≠ b → (T a).2.1 ≠ (T b).2.1) (hfin : (T j).2.2.2 = true) (hnmi : ∀ m : Method, nm m → m.name = "<init>") (hdecl : (T j).1 = own) (hjl : j < fs.length) (hf : ∃ t, fs[j]? = some (some (some t))) (hn : ∀ a : Nat, narrow (ty j) (.ref a) = .ref a) (hft : ∀ a : Nat, fits (ty j) (.ref a) = true) (hcl : rj_cl ω μ) (hset : fs.set j (some (some (r + 1))) = fs1)
    (kk : ∀ ω1 : rj_W, ω1.1 = ω.1 → ω1.2.1 = va_up sf k (.inr (ci, fs1)) → ω1.2.2 = ω.2.2 → rj_cl ω1 μ → rj_RI nm g own cc nL ret ws hh rm F u ω1 μ (L ω1.2.2) q (ST ω1.2.2)) : rj_RI nm g own cc nL ret ws hh rm F u ω μ (L ω.2.2) pc (.ref (ω.2.2 r) :: .ref (ω.2.2 k) :: ST ω.2.2) := by
  subst hset
  have hs2 : ω.2.1 k = .inr (ci, fs) := by rw [hs, va_up_self]
  exact ri_putQ hd hq hin hc hk hs2 hj hl ty hty hnm hfin hnmi hdecl hjl hf hn hft (kk _ rfl (by show va_up ω.2.1 k _ = _; rw [hs, va_up_up]) rfl (rj_cl_put hcl hk hs2 hr))
/-- a constructor is called -/
theorem ri_callI {y : MethodName} {bytes : ByteArray} {maxL idx n k d c d' c' : Nat} {wc wc' : List Cond} {av : List Value} {P1 : rj_P} (hrm : rm = rj_rm d c) (hM : rj_Sp g y wc (rj_rm d' c') (.ref (ω.2.2 k) :: av) ω μ P1) (hG : GoodIn ws wc) (hw : wc = Cond.code y bytes maxL none :: wc') (hini : Cond.initialized y.cls ∈ ws) (hlk : Cond.methodLink own idx y ∈ ws) (hin : Cond.instanceMethod y ∈ ws) (hy1 : y.name = "<init>")
    (hdd : y.cls ≠ "java/lang/invoke/MethodHandle" ∧ y.cls ≠ "java/lang/invoke/VarHandle" ∧ (parseMethodDescriptor y.desc).map (fun d => d.parameters.length) = some n) (hR : d' + 1 ≤ d ∧ 8 + (maxL + 11) + 64 * d' ≤ 64 * d) (hd : decode cc pc = .ok (.invokespecial idx, 3)) (hq : pc + 3 = q) (hn : av.length = n) (hW : ((ST ω.2.2).map fun v => v.category).sum ≤ 8) (hf : u + c' ≤ c)
    (hl : ∀ ad : Nat → Nat, (∀ j, j < ω.1 → ad j = ω.2.2 j) → L ad = L ω.2.2) (hst : ∀ ad : Nat → Nat, (∀ j, j < ω.1 → ad j = ω.2.2 j) → ST ad = ST ω.2.2)
    (hP : ∀ o ω1 μ1, P1 o ω1 μ1 → o = .inl none ∧ ∀ j, j < ω.1 → ω1.2.2 j = ω.2.2 j) (kk : ∀ ω1 μ1, P1 (.inl none) ω1 μ1 → rj_RI nm g own cc nL ret ws hh rm F (u + c') ω1 μ1 (L ω1.2.2) q (ST ω1.2.2)) : rj_RI nm g own cc nL ret ws hh rm F u ω μ (L ω.2.2) pc (av.reverse ++ .ref (ω.2.2 k) :: ST ω.2.2) := by
  subst hq
  subst hrm
  intro p e s m args below meth cd H locs A ls C N0 S h
  refine rj_behind (vx_runI (As := av) (rest := ST ω.2.2) ⟨C.1, C.2.1, C.2.2.2.1, C.2.2.2.2.1, C.2.2.2.2.2.1⟩ (hM C.2.2.2.2.2.2.2.1 H.size) (cwI n C.2.2.2.2.2.1 hG hw rfl rfl (C.2.2.2.2.2.1 _ hini) (C.2.2.2.2.2.1 _ hlk) (C.2.2.2.2.2.1 _ hin) hy1 hdd hR) ⟨rj_blind, fun U hU hWm => rj_pre S hU hWm⟩ rfl hn h.1 rfl (lv_room hW) hd ⟨hf, by show 8 * u + 8 * c' ≤ 8 * c; omega⟩) rfl S ?_ ?_
  · intro E ω' μ' H1 locs1 ce q9 h1
    exact absurd (hP _ _ _ h1).1 (fun z => by cases z)
  · intro v ω' μ' H1 locs1 h1 hS1
    have h2 := hP _ _ _ h1
    obtain ⟨h3, h4⟩ := h2
    cases h3
    have hx := kk ω' μ' h1 p e s m args below meth cd H1 locs1 A ls C N0 hS1 (by rw [hl _ h4]; exact h)
    rw [hst _ h4] at hx
    exact hx
/-- a nest mate's private constructor is called -/
theorem ri_callIN {y : MethodName} {host : String} {bytes : ByteArray} {maxL idx n k d c d' c' : Nat} {wc wc' : List Cond} {av : List Value} {P1 : rj_P} (hrm : rm = rj_rm d c) (hM : rj_Sp g y wc (rj_rm d' c') (.ref (ω.2.2 k) :: av) ω μ P1) (hG : GoodIn ws wc) (hw : wc = Cond.code y bytes maxL none :: wc') (hini : Cond.initialized y.cls ∈ ws) (hlk : (own, idx, y, host) ∈ rj_nw) (hin : Cond.instanceMethod y ∈ ws) (hy1 : y.name = "<init>")
    (hdd : y.cls ≠ "java/lang/invoke/MethodHandle" ∧ y.cls ≠ "java/lang/invoke/VarHandle" ∧ (parseMethodDescriptor y.desc).map (fun d => d.parameters.length) = some n) (hR : d' + 1 ≤ d ∧ 8 + (maxL + 11) + 64 * d' ≤ 64 * d) (hd : decode cc pc = .ok (.invokespecial idx, 3)) (hq : pc + 3 = q) (hn : av.length = n) (hW : ((ST ω.2.2).map fun v => v.category).sum ≤ 8) (hf : u + c' ≤ c)
    (hl : ∀ ad : Nat → Nat, (∀ j, j < ω.1 → ad j = ω.2.2 j) → L ad = L ω.2.2) (hst : ∀ ad : Nat → Nat, (∀ j, j < ω.1 → ad j = ω.2.2 j) → ST ad = ST ω.2.2)
    (hP : ∀ o ω1 μ1, P1 o ω1 μ1 → o = .inl none ∧ ∀ j, j < ω.1 → ω1.2.2 j = ω.2.2 j) (kk : ∀ ω1 μ1, P1 (.inl none) ω1 μ1 → rj_RI nm g own cc nL ret ws hh rm F (u + c') ω1 μ1 (L ω1.2.2) q (ST ω1.2.2)) : rj_RI nm g own cc nL ret ws hh rm F u ω μ (L ω.2.2) pc (av.reverse ++ .ref (ω.2.2 k) :: ST ω.2.2) := by
  subst hq
  subst hrm
  intro p e s m args below meth cd H locs A ls C N0 S h
  refine rj_behind (vx_runIN (As := av) (rest := ST ω.2.2) ⟨C.1, C.2.1, C.2.2.2.1, C.2.2.2.2.1, C.2.2.2.2.2.1⟩ (hM C.2.2.2.2.2.2.2.1 H.size) ⟨va_cnB n C.2.2.2.2.2.1 hG hw rfl rfl (S.2.2.2.2.1 _ hlk) (C.2.2.2.2.2.1 _ hini) hdd hR, hy1, C.2.2.2.2.2.1 _ hin⟩ ⟨rj_blind, fun U hU hWm => rj_pre S hU hWm⟩ rfl hn h.1 rfl (lv_room hW) hd ⟨hf, by show 8 * u + 8 * c' ≤ 8 * c; omega⟩) rfl S ?_ ?_
  · intro E ω' μ' H1 locs1 ce q9 h1
    exact absurd (hP _ _ _ h1).1 (fun z => by cases z)
  · intro v ω' μ' H1 locs1 h1 hS1
    have h2 := hP _ _ _ h1
    obtain ⟨h3, h4⟩ := h2
    cases h3
    have hx := kk ω' μ' h1 p e s m args below meth cd H1 locs1 A ls C N0 hS1 (by rw [hl _ h4]; exact h)
    rw [hst _ h4] at hx
    exact hx
end rjInit3
/-- what a constructor leaves: n cells, their shapes, the memory; what was there has kept its address -/
def rj_DI (ω : rj_W) (n : Nat) (sf : Nat → rj_Sh) (μ1 : rj_M) : rj_P := fun o ω' μ' => o = .inl none ∧ (∀ j, j < ω.1 → ω'.2.2 j = ω.2.2 j) ∧ ω'.1 = n ∧ ω'.2.1 = sf ∧ μ' = μ1 ∧ rj_cl ω' μ'
theorem rj_DI.p {ω : rj_W} {n : Nat} {sf : Nat → rj_Sh} {μ1 : rj_M} : ∀ o ω1 μ2, rj_DI ω n sf μ1 o ω1 μ2 → o = .inl none ∧ ∀ j, j < ω.1 → ω1.2.2 j = ω.2.2 j := fun _ _ _ h => ⟨h.1, h.2.1⟩
section rjInit4
variable {nm : Method → Prop} {g : rj_G} {own : String} {cc : ByteArray} {nL : Nat} {ret : Option FieldType} {ws : List Cond} {hh : List (Nat × Nat × Nat × Nat)} {rm : Room} {F : rj_F} {u : Nat} {ω : rj_W} {μ : rj_M} {l : List (Nat × Value)} {pc q : Nat} {st : List Value}
theorem ri_sub {l' : List (Nat × Value)} (ks : List Nat) (hl : lv_pick l ks = l') (k : rj_RI nm g own cc nL ret ws hh rm F u ω μ l' pc st) : rj_RI nm g own cc nL ret ws hh rm F u ω μ l pc st := fun p e s m args below meth c H locs A ls C N S h => k p e s m args below meth c H locs A ls C N S (lv_sub h ks hl)
theorem ri_iload_n {i : Fin 4} {x : Int32} (j : Nat) (hd : decode cc pc = .ok (.iload_n i, 1)) (hq : pc + 1 = q) (hl : l[j]? = some ((i : Nat), .int x)) (k : rj_RI nm g own cc nL ret ws hh rm F u ω μ l q (.int x :: st)) : rj_RI nm g own cc nL ret ws hh rm F u ω μ l pc st := by
  subst hq
  exact fun p e s m args below meth c H locs A ls C N S h => lv_iload_n C.1 C.2.1 hd rfl (lv_at h j hl) (k p e s m args below meth c H locs A ls C N S h)
theorem ri_getR {C0 : String} {T : u_T} {N ci idx k j : Nat} {fs : List (Option (Option Nat))} {r : Nat} (hd : decode cc pc = .ok (.getfield idx, 3)) (hq : pc + 3 = q) (hin : ∀ w ∈ u_ws C0 T N, w ∈ ws) (hc : vwCl[ci]? = some (C0, T, N)) (hk : k < ω.1) (hs : ω.2.1 k = .inr (ci, fs)) (hj : j < N) (hl : Cond.fieldLink own idx (T j).1 (T j).2.1 (T j).2.2.1 ∈ ws) (hf : fs[j]? = some (some (some (r + 1)))) (kk : rj_RI nm g own cc nL ret ws hh rm F u ω μ l q (.ref (ω.2.2 r) :: st)) : rj_RI nm g own cc nL ret ws hh rm F u ω μ l pc (.ref (ω.2.2 k) :: st) := by
  subst hq
  exact fun p e s m args below meth c H locs A ls C N0 S h => va_get (D := g.2.1) (tys := rj_ty g) C.1 C.2.1 C.2.2.2.2.2.1 hin C.2.2.2.2.1 S.1.2.1 S.1.1 k (rj_at hk hs) hc j hj (C.2.2.2.2.2.1 _ hl) (fun _ z => z) (by rw [rj_fv_get, hf, Nat.zero_add]; rfl) hd (kk p e s m args below meth c H locs A ls C N0 S h)
/-- an object into a row of Moments -/
theorem rj_qastO {k n r : Nat} {fs : List (Option (Option Nat))} {i : Int32} (hd : decode cc pc = .ok (.aastore, 1)) (hq : pc + 1 = q) (hk : k < ω.1) (hs : ω.2.1 k = .inl (5, n)) (hi : vp_in i n) (hkr : r < ω.1) (hsr : ω.2.1 r = .inr (5, fs)) (kk : rj_R g own cc nL ret ws hh rm F u ω (rj_pq μ k i.toNatClampNeg (r + 1)) l q st) : rj_R g own cc nL ret ws hh rm F u ω μ l pc (.ref (ω.2.2 r) :: .int i :: .ref (ω.2.2 k) :: st) := by
  subst hq
  have hf : (va_up (fun j => rj_rf ω.2.2 (μ.2.2.2 k j)) i.toNatClampNeg (some (ω.2.2 r))) = fun j => rj_rf ω.2.2 (va_up (μ.2.2.2 k) i.toNatClampNeg (r + 1) j) := by
    funext j
    by_cases hj : j = i.toNatClampNeg
    · subst hj
      simp [va_up, rj_rf]
    · simp [va_up, hj]
  have he : (Sum.inl (g.2.2 5, n, .inr (.inr (.inr (.inr (va_up (fun j => rj_rf ω.2.2 (μ.2.2.2 k j)) i.toNatClampNeg (some (ω.2.2 r))))))) : va_E) = rj_en g ω.2.2 (rj_pq μ k i.toNatClampNeg (r + 1)) k (ω.2.1 k) := by
    rw [hf, hs]
    simp [rj_en, rj_av, rj_pq, va_up_self]
  refine fun p e s m args below meth c H locs A ls C S h => va_astq (D := g.2.1) (tys := rj_ty g) C.1 C.2.1 S.1.2.1 S.1.1 S.1.2.2 S.2.1 k 5 r 5 (rj_at hk hs) rfl (rj_at hkr hsr) rfl hi hd (fun H1 locs1 hP hD hS => ?_)
  rw [rj_set (μ' := rj_pq μ k i.toNatClampNeg (r + 1)) hk he rj_pq_ne] at hP hD
  exact kk p e s m args below meth c H1 locs1 A ls C ⟨⟨hP, S.1.2.1, hD⟩, hS, S.2.2⟩ h
end rjInit4
section rjInit5
variable {nm : Method → Prop} {g : rj_G} {own : String} {cc : ByteArray} {nL : Nat} {ret : Option FieldType} {ws : List Cond} {hh : List (Nat × Nat × Nat × Nat)} {rm : Room} {F : rj_F} {u : Nat} {ω : rj_W} {μ : rj_M} {pc q : Nat} {L : (Nat → Nat) → List (Nat × Value)} {ST : (Nat → Nat) → List Value}
theorem ri_anew {idx : Nat} {n : Int32} {N K : Nat} (hd : decode cc pc = .ok (.anewarray idx, 3)) (hq : pc + 3 = q) (hlk : Cond.classLink own idx RX5 ∈ ws) (hn : ¬ n < 0) (hN : n.toNatClampNeg = N) (hby : N * 4 ≤ 536870912) (hK1 : 1 ≤ K) (hK : N ≤ 8 * K) (hu : u + K ≤ rm.cells) (hs : 8 * (u + K) ≤ rm.slots) (hcl : rj_cl ω μ) (hsh : ω.2.1 ω.1 = .inl (5, N))
    (hl : ∀ ad : Nat → Nat, (∀ j, j < ω.1 → ad j = ω.2.2 j) → L ad = L ω.2.2) (hst : ∀ ad : Nat → Nat, (∀ j, j < ω.1 → ad j = ω.2.2 j) → ST ad = ST ω.2.2)
    (kk : ∀ ω1 : rj_W, ω1.1 = ω.1 + 1 → ω1.2.1 = ω.2.1 → (∀ j, j < ω.1 → ω1.2.2 j = ω.2.2 j) → rj_cl ω1 (rj_z μ ω.1) → rj_RI nm g own cc nL ret ws hh rm F (u + K) ω1 (rj_z μ ω.1) (L ω1.2.2) q (.ref (ω1.2.2 ω.1) :: ST ω1.2.2)) : rj_RI nm g own cc nL ret ws hh rm F u ω μ (L ω.2.2) pc (.int n :: ST ω.2.2) := by
  subst hq
  intro p e s m args below meth c H locs A ls C N0 S h
  refine va_newq (D := g.2.1) (tys := rj_ty g) C.1 C.2.1 C.2.2.2.2.1 (C.2.2.2.2.2.1 _ hlk) S.2.2.2.2.2.2.2.2.2.1 S.1.2.1 S.1.1 S.1.2.2 S.2.1 S.2.2.1 hn hN hby (by omega) (by omega) hd (fun a cA H1 hK' hP hD hS => ?_)
  have hcA : cA = g.2.2 5 := by
    obtain ⟨_, _, _, _, _, e1⟩ := (hK'.2 (rj_ty g).length (cA, .object RX5) (by simp)).2
    obtain ⟨_, _, _, _, _, e2⟩ := (S.1.2.1.2 5 (g.2.2 5, .object RX5) rfl).2
    exact Option.some.inj (e1.symm.trans e2)
  subst hcA
  have hag : ∀ j, j < ω.1 → (rj_w1 ω (.inl (5, N)) a).2.2 j = ω.2.2 j := fun j hj => va_up_ne _ _ (by omega)
  have hw : rj_ws g (rj_w1 ω (.inl (5, N)) a) (rj_z μ ω.1) = rj_ws g ω μ ++ [(a, .inl (g.2.2 5, N, .inr (.inr (.inr (.inr (fun _ => none))))))] := by
    rw [rj_w1_ws hcl]
    congr 3
    simp only [rj_en, rj_av, rj_z, va_up_self]
    rfl
  rw [← hw] at hP hD
  have hx := kk (rj_w1 ω (.inl (5, N)) a) rfl (va_up_id hsh) hag (rj_w1_cl hcl rj_z_cl) p e s m args below meth c H1 locs A ls C N0 ⟨⟨hP, S.1.2.1, hD⟩, hS, S.2.2⟩ (by rw [hl _ hag]; exact h)
  rw [hst _ hag, show (rj_w1 ω (.inl (5, N)) a).2.2 ω.1 = a from va_up_self _ _ _] at hx
  exact W.widen (by omega) (by omega) hx
end rjInit5
