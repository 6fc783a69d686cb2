/-! DOUBLES in the law -/
theorem zd_self {x : UInt64} {o : CmpOp} (h : ¬ FP.Core.dIsNaN x = true) : Op.cmpValue (FP.dcmp x x) o = 0 := by
  have e : FP.dcmp x x = some .eq := FP.Core.dcmp_self (fun z => h ((FP.Core.dIsNaN_iff _).mpr z))
  rw [e]
  rfl
theorem zd_mean {c : rj_M} {a0 : Int32} {v : UInt64} (h : fX11_meanEvening c a0 = .inl v) : ¬ FP.Core.dIsNaN v = true := by
  unfold fX11_meanEvening at h
  cases hp : fX11_needPlace c a0 4 with
  | none =>
    rw [hp] at h
    have h2 : FP.ddiv (FP.i2d ((rj_fo (bX11_meanEvening_9 c a0) 12 0 (0, c)).1)) (4622945017495814144 : UInt64) = v := Sum.inl.inj h
    rw [← h2]
    exact zd_ddivN
  | some E =>
    rw [hp] at h
    exact absurd h.symm Sum.inl_ne_inr
theorem zd_f2dN {x : UInt32} (h : ¬ FP.Core.fIsNaN x = true) : ¬ FP.Core.dIsNaN (FP.f2d x) = true := by
  unfold FP.f2d
  rw [if_neg h, FP.Core.f2d_nan]
  exact h
theorem zd_f2d {x : UInt32} (h : ¬ FP.Core.fIsNaN x = true) : vf_n64 (FP.f2d x) := zd_n64 (zd_f2dN h)
theorem zd_share {c : rj_M} : ¬ FP.Core.fIsNaN (fX11_lineupShare c) = true := by
  unfold fX11_lineupShare
  by_cases h : fJ6_bitCount_0f7a4 c (fX7_numbers c) = 0
  · rw [if_pos h]
    decide +kernel
  · rw [if_neg h]
    exact zd_fdivN h
theorem zi_cr {n : Nat} {c r : rj_M} (h : zi_I n c r) : rj_cr r := by
  obtain ⟨s, L, G, -, h2, -⟩ := h
  exact h2.2.2.2.2
section zlCaseD
variable {n : Nat} {μ : rj_M} {Ls : List String} {F : rj_M → UInt64 ⊕ String} {M R : rj_M → rj_M} {B : rj_M → UInt64} {mL : rj_M} {kk : Int32}
theorem zl_D (op : ∀ c r, zi_I n c r → zo_out Ls (F c) ((R r).1 395 0) (B r) ∧ zi_op n c (M c) r (R r)) (hLs : Ls.length < 100) (I : zi_I n μ μ) (hm : mL = Sum.elim (fun v => rj_pd (M μ) 439 0 v) (fun _ => M μ) (F μ)) (hk : kk = Sum.elim (fun _ => 0) (rj_hc Ls 1) (F μ)) : (∀ E : String, F μ = .inr E → E ∈ Ls) ∧ zi_I n μ mL ∧ zi_I (n + 1) (R mL) (R mL) ∧ (R mL).1 395 0 = kk ∧ (kk = 0 → (R mL).2.2.1 439 0 = B mL ∧ F μ = .inl (B mL)) := by
  obtain ⟨a1, -⟩ := op μ μ I
  have hx : ∀ E : String, F μ = .inr E → E ∈ Ls := fun E hE => by
    rw [hE] at a1
    exact a1.1
  have hc : zi_hc (M μ) mL := by
    rw [hm]
    cases F μ with
    | inl v => exact ⟨fun _ _ => ⟨rfl, rfl⟩, rfl⟩
    | inr E => exact zi_hc_rfl
  have hr : zi_hr (M μ) mL := by
    rw [hm]
    cases F μ with
    | inl v => exact ⟨fun _ _ => rfl, rfl⟩
    | inr E => exact zi_hr_rfl
  obtain ⟨s1, s2, s3⟩ := zi_step (F := M) (M := R) (fun c r h => (op c r h).2) I hc hr
  have hI1 : zi_I n μ mL := by
    obtain ⟨-, q2, -⟩ := (op μ μ I).2
    exact zi_I_h I zi_hc_rfl (zi_hr_trans (zi_hr_fc q2) hr)
  obtain ⟨b1, -⟩ := op μ mL hI1
  refine ⟨hx, hI1, s2, ?_, fun h0 => ?_⟩
  · rw [hk]
    cases hF : F μ with
    | inl v =>
      rw [hF] at b1
      exact b1.1
    | inr E =>
      rw [hF] at b1
      exact b1.2
  · cases hF : F μ with
    | inl v =>
      rw [hF] at b1 hm
      have e : mL.2.2.1 439 0 = v := by
        rw [hm]
        show va_up (M μ).2.2.1 439 (vf_upd ((M μ).2.2.1 439) 0 v) 439 0 = v
        rw [va_up_self]
        simp [vf_upd]
      rw [(s3.2.1 439 (by decide)).2, e, b1.2]
      exact ⟨rfl, rfl⟩
    | inr E =>
      rw [hF] at hk
      have hE := hx E hF
      exact absurd (hk.symm.trans h0) (rj_hc_ne Ls 1 (by decide) (by omega) hE)
end zlCaseD
