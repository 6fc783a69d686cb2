noncomputable def rj_hc : List String → Nat → String → Int32
  | [], _, _ => 0
  | x :: r, k, E => if E = x then nI k else rj_hc r (k + 1) E
noncomputable def fL_setDate (μ : rj_M) (a0 : Int32) (a1 : Int32) (a2 : Int32) : Int32 := Sum.elim (fun _ => 0) (rj_hc ["java/lang/IllegalArgumentException"] 1) (fX11_setDate μ a0 a1 a2)
noncomputable def mL_setDate (μ : rj_M) (a0 : Int32) (a1 : Int32) (a2 : Int32) : rj_M := Sum.elim (fun v => rj_pl (mX11_setDate μ a0 a1 a2) 438 0 v.toInt64) (fun _ => (mX11_setDate μ a0 a1 a2)) (fX11_setDate μ a0 a1 a2)
set_option maxHeartbeats 4000000 in
set_option maxRecDepth 100000 in
theorem sL_setDate {g : rj_G} {ω : rj_W} (hω : rj_ok ω) (μ : rj_M) (a0 : Int32) (a1 : Int32) (a2 : Int32) (hq : qX11_setDate μ a0 a1 a2) (hx : ∀ E : String, (fX11_setDate μ a0 a1 a2) = .inr E → E ∈ ["java/lang/IllegalArgumentException"]) : rj_Sp g yL_setDate wsL_setDate (rj_rm 7 1) [.ref (ω.2.2 0), .int a0, .int a1, .int a2, .ref (ω.2.2 438)] ω μ (rj_D (.inl (some (.int (fL_setDate μ a0 a1 a2)))) ω (mL_setDate μ a0 a1 a2)) := by
  refine rj_ofH (cc := cL_setDate) (nL := 6) (ret := (some .int)) (hh := [(0, 12, 15, 13)]) (own := RL) (l0 := [(0, .ref (ω.2.2 0)), (1, .int a0), (2, .int a1), (3, .int a2), (4, .ref (ω.2.2 438))]) rfl (by decide +kernel) rfl (Nat.le_of_ble_eq_true rfl) rfl ?_
  have hM := (sX11_setDate (g := g) (ω := ω) hω μ a0 a1 a2   hq)
  refine rj_aload 4 dL_setDate_0 rfl rfl ?_
  refine rj_iconst (v := 0) dL_setDate_2 rfl (by decide) ?_
  refine rj_aload_n 0 dL_setDate_3 rfl rfl ?_
  refine rj_iload_n 1 dL_setDate_4 rfl rfl ?_
  refine rj_iload_n 2 dL_setDate_5 rfl rfl ?_
  refine rj_iload_n 3 dL_setDate_6 rfl rfl ?_
  rcases hf : (fX11_setDate μ a0 a1 a2) with v | E
  · rw [hf] at hM
    refine rj_cVh (rest := [.int 0, .ref (ω.2.2 438)]) hM gL_setDate_X11_setDate (rj_lt hω (k := 0) rfl) (rj_sh hω ly_0) rfl rfl hVX11_setDate ⟨(Nat.le_of_ble_eq_true rfl), (Nat.le_of_ble_eq_true rfl)⟩ dL_setDate_7 rfl rfl rfl (Nat.le_of_ble_eq_true rfl) rfl (Nat.le_of_ble_eq_true rfl) ?_ ?_
    · intro E hE
      cases hE
    · intro v0 hv
      cases hv
      refine rj_i2l dL_setDate_10 rfl ?_
      refine rj_last dL_setDate_11 rfl (rj_lt hω (k := 438) rfl) (rj_sh hω ly_438) (vp_in_nI (n := 0) (rj_bl rfl) (rj_bl rfl)) ?_
      refine rj_goto dL_setDate_12 rfl ?_
      refine rj_iconst (v := 0) dL_setDate_19 rfl (by decide) ?_
      exact rj_iret dL_setDate_20 rfl (Nat.le_of_ble_eq_true rfl) (Nat.le_of_ble_eq_true rfl) ⟨by unfold fL_setDate; rw [hf]; rfl, rfl, by unfold mL_setDate; rw [hf]; rfl⟩
  · rw [hf] at hM
    have hE := hx E hf
    refine rj_cVh (rest := [.int 0, .ref (ω.2.2 438)]) hM gL_setDate_X11_setDate (rj_lt hω (k := 0) rfl) (rj_sh hω ly_0) rfl rfl hVX11_setDate ⟨(Nat.le_of_ble_eq_true rfl), (Nat.le_of_ble_eq_true rfl)⟩ dL_setDate_7 rfl rfl rfl (Nat.le_of_ble_eq_true rfl) rfl (Nat.le_of_ble_eq_true rfl) ?_ ?_
    · intro E0 hE0
      cases hE0
      simp only [List.mem_cons, List.not_mem_nil, or_false] at hE
      subst hE
      refine ⟨15, ⟨[], (0, 12, 15, 13), [], "java/lang/IllegalArgumentException", rfl, (fun z hz => by cases hz), by decide, by decide, by decide, by decide +kernel, by decide +kernel, rfl⟩, fun q9 => ?_⟩
      refine rj_astore (l' := [(5, .ref q9), (0, .ref (ω.2.2 0)), (1, .int a0), (2, .int a1), (3, .int a2), (4, .ref (ω.2.2 438))]) dL_setDate_15 rfl (rj_bl rfl) rfl ?_
      refine rj_iconst (v := 1) dL_setDate_17 rfl (by decide) ?_
      exact rj_iret dL_setDate_18 rfl (Nat.le_of_ble_eq_true rfl) (Nat.le_of_ble_eq_true rfl) ⟨by unfold fL_setDate; rw [hf]; decide, rfl, by unfold mL_setDate; rw [hf]; rfl⟩
    · intro v hv
      cases hv
noncomputable def fL_setOpen (μ : rj_M) (a0 : Int32) (a1 : Int32) : Int32 := Sum.elim (fun _ => 0) (rj_hc ["java/lang/IndexOutOfBoundsException"] 1) (fX11_setOpen μ a0 a1)
noncomputable def mL_setOpen (μ : rj_M) (a0 : Int32) (a1 : Int32) : rj_M := Sum.elim (fun v => rj_pl (mX11_setOpen μ a0 a1) 438 0 (if v = 0 then 0 else 1)) (fun _ => (mX11_setOpen μ a0 a1)) (fX11_setOpen μ a0 a1)
set_option maxHeartbeats 4000000 in
set_option maxRecDepth 100000 in
theorem sL_setOpen {g : rj_G} {ω : rj_W} (hω : rj_ok ω) (μ : rj_M) (a0 : Int32) (a1 : Int32) (hq : qX11_setOpen μ a0 a1) (hx : ∀ E : String, (fX11_setOpen μ a0 a1) = .inr E → E ∈ ["java/lang/IndexOutOfBoundsException"]) : rj_Sp g yL_setOpen wsL_setOpen (rj_rm 8 1) [.ref (ω.2.2 0), .int a0, .int a1, .ref (ω.2.2 438)] ω μ (rj_D (.inl (some (.int (fL_setOpen μ a0 a1)))) ω (mL_setOpen μ a0 a1)) := by
  refine rj_ofH (cc := cL_setOpen) (nL := 5) (ret := (some .int)) (hh := [(0, 17, 20, 19)]) (own := RL) (l0 := [(0, .ref (ω.2.2 0)), (1, .int a0), (2, .int a1), (3, .ref (ω.2.2 438))]) rfl (by decide +kernel) rfl (Nat.le_of_ble_eq_true rfl) rfl ?_
  have hM := (sX11_setOpen (g := g) (ω := ω) hω μ a0 a1   hq)
  refine rj_aload_n 3 dL_setOpen_0 rfl rfl ?_
  refine rj_iconst (v := 0) dL_setOpen_1 rfl (by decide) ?_
  refine rj_aload_n 0 dL_setOpen_2 rfl rfl ?_
  refine rj_iload_n 1 dL_setOpen_3 rfl rfl ?_
  refine rj_iload_n 2 dL_setOpen_4 rfl rfl ?_
  rcases hf : (fX11_setOpen μ a0 a1) with v | E
  · rw [hf] at hM
    refine rj_cVh (rest := [.int 0, .ref (ω.2.2 438)]) hM gL_setOpen_X11_setOpen (rj_lt hω (k := 0) rfl) (rj_sh hω ly_0) rfl rfl hVX11_setOpen ⟨(Nat.le_of_ble_eq_true rfl), (Nat.le_of_ble_eq_true rfl)⟩ dL_setOpen_5 rfl rfl rfl (Nat.le_of_ble_eq_true rfl) rfl (Nat.le_of_ble_eq_true rfl) ?_ ?_
    · intro E hE
      cases hE
    · intro v0 hv
      cases hv
      refine rj_if_eq dL_setOpen_8 rfl rfl (fun h1 => ?_) (fun h1 => ?_)
      · refine rj_lconst (v := 0) dL_setOpen_15 rfl (by decide) ?_
        refine rj_last dL_setOpen_16 rfl (rj_lt hω (k := 438) rfl) (rj_sh hω ly_438) (vp_in_nI (n := 0) (rj_bl rfl) (rj_bl rfl)) ?_
        refine rj_goto dL_setOpen_17 rfl ?_
        refine rj_iconst (v := 0) dL_setOpen_24 rfl (by decide) ?_
        exact rj_iret dL_setOpen_25 rfl (Nat.le_of_ble_eq_true rfl) (Nat.le_of_ble_eq_true rfl) ⟨by unfold fL_setOpen; rw [hf]; rfl, rfl, by unfold mL_setOpen; rw [hf]; simp only [Sum.elim_inl]; rw [if_pos h1]; rfl⟩
      · refine rj_lconst (v := 1) dL_setOpen_11 rfl (by decide) ?_
        refine rj_goto dL_setOpen_12 rfl ?_
        refine rj_last dL_setOpen_16 rfl (rj_lt hω (k := 438) rfl) (rj_sh hω ly_438) (vp_in_nI (n := 0) (rj_bl rfl) (rj_bl rfl)) ?_
        refine rj_goto dL_setOpen_17 rfl ?_
        refine rj_iconst (v := 0) dL_setOpen_24 rfl (by decide) ?_
        exact rj_iret dL_setOpen_25 rfl (Nat.le_of_ble_eq_true rfl) (Nat.le_of_ble_eq_true rfl) ⟨by unfold fL_setOpen; rw [hf]; rfl, rfl, by unfold mL_setOpen; rw [hf]; simp only [Sum.elim_inl]; rw [if_neg h1]; rfl⟩
  · rw [hf] at hM
    have hE := hx E hf
    refine rj_cVh (rest := [.int 0, .ref (ω.2.2 438)]) hM gL_setOpen_X11_setOpen (rj_lt hω (k := 0) rfl) (rj_sh hω ly_0) rfl rfl hVX11_setOpen ⟨(Nat.le_of_ble_eq_true rfl), (Nat.le_of_ble_eq_true rfl)⟩ dL_setOpen_5 rfl rfl rfl (Nat.le_of_ble_eq_true rfl) rfl (Nat.le_of_ble_eq_true rfl) ?_ ?_
    · intro E0 hE0
      cases hE0
      simp only [List.mem_cons, List.not_mem_nil, or_false] at hE
      subst hE
      refine ⟨20, ⟨[], (0, 17, 20, 19), [], "java/lang/IndexOutOfBoundsException", rfl, (fun z hz => by cases hz), by decide, by decide, by decide, by decide +kernel, by decide +kernel, rfl⟩, fun q9 => ?_⟩
      refine rj_astore (l' := [(4, .ref q9), (0, .ref (ω.2.2 0)), (1, .int a0), (2, .int a1), (3, .ref (ω.2.2 438))]) dL_setOpen_20 rfl (rj_bl rfl) rfl ?_
      refine rj_iconst (v := 1) dL_setOpen_22 rfl (by decide) ?_
      exact rj_iret dL_setOpen_23 rfl (Nat.le_of_ble_eq_true rfl) (Nat.le_of_ble_eq_true rfl) ⟨by unfold fL_setOpen; rw [hf]; decide, rfl, by unfold mL_setOpen; rw [hf]; rfl⟩
    · intro v hv
      cases hv
noncomputable def fL_setWay (μ : rj_M) (a0 : Int32) (a1 : Int32) (a2 : Int32) : Int32 := Sum.elim (fun _ => 0) (rj_hc ["java/lang/IndexOutOfBoundsException", "java/lang/IllegalArgumentException"] 1) (fX11_setWay μ a0 a1 a2)
noncomputable def mL_setWay (μ : rj_M) (a0 : Int32) (a1 : Int32) (a2 : Int32) : rj_M := Sum.elim (fun v => rj_pl (mX11_setWay μ a0 a1 a2) 438 0 v.toInt64) (fun _ => (mX11_setWay μ a0 a1 a2)) (fX11_setWay μ a0 a1 a2)
set_option maxHeartbeats 4000000 in
set_option maxRecDepth 100000 in
theorem sL_setWay {g : rj_G} {ω : rj_W} (hω : rj_ok ω) (μ : rj_M) (a0 : Int32) (a1 : Int32) (a2 : Int32) (hq : qX11_setWay μ a0 a1 a2) (hx : ∀ E : String, (fX11_setWay μ a0 a1 a2) = .inr E → E ∈ ["java/lang/IndexOutOfBoundsException", "java/lang/IllegalArgumentException"]) : rj_Sp g yL_setWay wsL_setWay (rj_rm 8 4) [.ref (ω.2.2 0), .int a0, .int a1, .int a2, .ref (ω.2.2 438)] ω μ (rj_D (.inl (some (.int (fL_setWay μ a0 a1 a2)))) ω (mL_setWay μ a0 a1 a2)) := by
  refine rj_ofH (cc := cL_setWay) (nL := 6) (ret := (some .int)) (hh := [(0, 12, 15, 19), (0, 12, 19, 13)]) (own := RL) (l0 := [(0, .ref (ω.2.2 0)), (1, .int a0), (2, .int a1), (3, .int a2), (4, .ref (ω.2.2 438))]) rfl (by decide +kernel) rfl (Nat.le_of_ble_eq_true rfl) rfl ?_
  have hM := (sX11_setWay (g := g) (ω := ω) hω μ a0 a1 a2   hq)
  refine rj_aload 4 dL_setWay_0 rfl rfl ?_
  refine rj_iconst (v := 0) dL_setWay_2 rfl (by decide) ?_
  refine rj_aload_n 0 dL_setWay_3 rfl rfl ?_
  refine rj_iload_n 1 dL_setWay_4 rfl rfl ?_
  refine rj_iload_n 2 dL_setWay_5 rfl rfl ?_
  refine rj_iload_n 3 dL_setWay_6 rfl rfl ?_
  rcases hf : (fX11_setWay μ a0 a1 a2) with v | E
  · rw [hf] at hM
    refine rj_cVh (rest := [.int 0, .ref (ω.2.2 438)]) hM gL_setWay_X11_setWay (rj_lt hω (k := 0) rfl) (rj_sh hω ly_0) rfl rfl hVX11_setWay ⟨(Nat.le_of_ble_eq_true rfl), (Nat.le_of_ble_eq_true rfl)⟩ dL_setWay_7 rfl rfl rfl (Nat.le_of_ble_eq_true rfl) rfl (Nat.le_of_ble_eq_true rfl) ?_ ?_
    · intro E hE
      cases hE
    · intro v0 hv
      cases hv
      refine rj_i2l dL_setWay_10 rfl ?_
      refine rj_last dL_setWay_11 rfl (rj_lt hω (k := 438) rfl) (rj_sh hω ly_438) (vp_in_nI (n := 0) (rj_bl rfl) (rj_bl rfl)) ?_
      refine rj_goto dL_setWay_12 rfl ?_
      refine rj_iconst (v := 0) dL_setWay_23 rfl (by decide) ?_
      exact rj_iret dL_setWay_24 rfl (Nat.le_of_ble_eq_true rfl) (Nat.le_of_ble_eq_true rfl) ⟨by unfold fL_setWay; rw [hf]; rfl, rfl, by unfold mL_setWay; rw [hf]; rfl⟩
  · rw [hf] at hM
    have hE := hx E hf
    refine rj_cVh (rest := [.int 0, .ref (ω.2.2 438)]) hM gL_setWay_X11_setWay (rj_lt hω (k := 0) rfl) (rj_sh hω ly_0) rfl rfl hVX11_setWay ⟨(Nat.le_of_ble_eq_true rfl), (Nat.le_of_ble_eq_true rfl)⟩ dL_setWay_7 rfl rfl rfl (Nat.le_of_ble_eq_true rfl) rfl (Nat.le_of_ble_eq_true rfl) ?_ ?_
    · intro E0 hE0
      cases hE0
      simp only [List.mem_cons, List.not_mem_nil, or_false] at hE
      rcases hE with rfl | rfl
      · refine ⟨15, ⟨[], (0, 12, 15, 19), [(0, 12, 19, 13)], "java/lang/IndexOutOfBoundsException", rfl, (fun z hz => by cases hz), by decide, by decide, by decide, by decide +kernel, by decide +kernel, rfl⟩, fun q9 => ?_⟩
        refine rj_astore (l' := [(5, .ref q9), (0, .ref (ω.2.2 0)), (1, .int a0), (2, .int a1), (3, .int a2), (4, .ref (ω.2.2 438))]) dL_setWay_15 rfl (rj_bl rfl) rfl ?_
        refine rj_iconst (v := 1) dL_setWay_17 rfl (by decide) ?_
        exact rj_iret dL_setWay_18 rfl (Nat.le_of_ble_eq_true rfl) (Nat.le_of_ble_eq_true rfl) ⟨by unfold fL_setWay; rw [hf]; decide, rfl, by unfold mL_setWay; rw [hf]; rfl⟩
      · refine ⟨19, ⟨[(0, 12, 15, 19)], (0, 12, 19, 13), [], "java/lang/IllegalArgumentException", rfl, by
            intro z hz
            simp only [List.mem_cons, List.not_mem_nil, or_false] at hz
            subst hz
            exact ⟨by decide, "java/lang/IndexOutOfBoundsException", by decide +kernel, by decide +kernel⟩, by decide, by decide, by decide, by decide +kernel, by decide +kernel, rfl⟩, fun q9 => ?_⟩
        refine rj_astore (l' := [(5, .ref q9), (0, .ref (ω.2.2 0)), (1, .int a0), (2, .int a1), (3, .int a2), (4, .ref (ω.2.2 438))]) dL_setWay_19 rfl (rj_bl rfl) rfl ?_
        refine rj_iconst (v := 2) dL_setWay_21 rfl (by decide) ?_
        exact rj_iret dL_setWay_22 rfl (Nat.le_of_ble_eq_true rfl) (Nat.le_of_ble_eq_true rfl) ⟨by unfold fL_setWay; rw [hf]; decide, rfl, by unfold mL_setWay; rw [hf]; rfl⟩
    · intro v hv
      cases hv
noncomputable def fL_act (μ : rj_M) (a0 : Int32) (a1 : Int32) (a2 : Int32) (a3 : Int32) (a4 : Int32) : Int32 := Sum.elim (fun _ => 0) (rj_hc ["java/lang/IndexOutOfBoundsException", "java/lang/IllegalArgumentException", "java/lang/IllegalStateException"] 1) (fX11_act μ a0 a1 a2 a3 a4)
noncomputable def mL_act (μ : rj_M) (a0 : Int32) (a1 : Int32) (a2 : Int32) (a3 : Int32) (a4 : Int32) : rj_M := Sum.elim (fun v => rj_pl (mX11_act μ a0 a1 a2 a3 a4) 438 0 v.toInt64) (fun _ => (mX11_act μ a0 a1 a2 a3 a4)) (fX11_act μ a0 a1 a2 a3 a4)
set_option maxHeartbeats 4000000 in
set_option maxRecDepth 100000 in
theorem sL_act {g : rj_G} {ω : rj_W} (hω : rj_ok ω) (μ : rj_M) (a0 : Int32) (a1 : Int32) (a2 : Int32) (a3 : Int32) (a4 : Int32) (hq : qX11_act μ a0 a1 a2 a3 a4) (hx : ∀ E : String, (fX11_act μ a0 a1 a2 a3 a4) = .inr E → E ∈ ["java/lang/IndexOutOfBoundsException", "java/lang/IllegalArgumentException", "java/lang/IllegalStateException"]) : rj_Sp g yL_act wsL_act (rj_rm 8 8) [.ref (ω.2.2 0), .int a0, .int a1, .int a2, .int a3, .int a4, .ref (ω.2.2 438)] ω μ (rj_D (.inl (some (.int (fL_act μ a0 a1 a2 a3 a4)))) ω (mL_act μ a0 a1 a2 a3 a4)) := by
  refine rj_ofH (cc := cL_act) (nL := 8) (ret := (some .int)) (hh := [(0, 16, 19, 19), (0, 16, 23, 13), (0, 16, 27, 28)]) (own := RL) (l0 := [(0, .ref (ω.2.2 0)), (1, .int a0), (2, .int a1), (3, .int a2), (4, .int a3), (5, .int a4), (6, .ref (ω.2.2 438))]) rfl (by decide +kernel) rfl (Nat.le_of_ble_eq_true rfl) rfl ?_
  have hM := (sX11_act (g := g) (ω := ω) hω μ a0 a1 a2 a3 a4   hq)
  refine rj_aload 6 dL_act_0 rfl rfl ?_
  refine rj_iconst (v := 0) dL_act_2 rfl (by decide) ?_
  refine rj_aload_n 0 dL_act_3 rfl rfl ?_
  refine rj_iload_n 1 dL_act_4 rfl rfl ?_
  refine rj_iload_n 2 dL_act_5 rfl rfl ?_
  refine rj_iload_n 3 dL_act_6 rfl rfl ?_
  refine rj_iload 4 dL_act_7 rfl rfl ?_
  refine rj_iload 5 dL_act_9 rfl rfl ?_
  rcases hf : (fX11_act μ a0 a1 a2 a3 a4) with v | E
  · rw [hf] at hM
    refine rj_cVh (rest := [.int 0, .ref (ω.2.2 438)]) hM gL_act_X11_act (rj_lt hω (k := 0) rfl) (rj_sh hω ly_0) rfl rfl hVX11_act ⟨(Nat.le_of_ble_eq_true rfl), (Nat.le_of_ble_eq_true rfl)⟩ dL_act_11 rfl rfl rfl (Nat.le_of_ble_eq_true rfl) rfl (Nat.le_of_ble_eq_true rfl) ?_ ?_
    · intro E hE
      cases hE
    · intro v0 hv
      cases hv
      refine rj_i2l dL_act_14 rfl ?_
      refine rj_last dL_act_15 rfl (rj_lt hω (k := 438) rfl) (rj_sh hω ly_438) (vp_in_nI (n := 0) (rj_bl rfl) (rj_bl rfl)) ?_
      refine rj_goto dL_act_16 rfl ?_
      refine rj_iconst (v := 0) dL_act_31 rfl (by decide) ?_
      exact rj_iret dL_act_32 rfl (Nat.le_of_ble_eq_true rfl) (Nat.le_of_ble_eq_true rfl) ⟨by unfold fL_act; rw [hf]; rfl, rfl, by unfold mL_act; rw [hf]; rfl⟩
  · rw [hf] at hM
    have hE := hx E hf
    refine rj_cVh (rest := [.int 0, .ref (ω.2.2 438)]) hM gL_act_X11_act (rj_lt hω (k := 0) rfl) (rj_sh hω ly_0) rfl rfl hVX11_act ⟨(Nat.le_of_ble_eq_true rfl), (Nat.le_of_ble_eq_true rfl)⟩ dL_act_11 rfl rfl rfl (Nat.le_of_ble_eq_true rfl) rfl (Nat.le_of_ble_eq_true rfl) ?_ ?_
    · intro E0 hE0
      cases hE0
      simp only [List.mem_cons, List.not_mem_nil, or_false] at hE
      rcases hE with rfl | rfl | rfl
      · refine ⟨19, ⟨[], (0, 16, 19, 19), [(0, 16, 23, 13), (0, 16, 27, 28)], "java/lang/IndexOutOfBoundsException", rfl, (fun z hz => by cases hz), by decide, by decide, by decide, by decide +kernel, by decide +kernel, rfl⟩, fun q9 => ?_⟩
        refine rj_astore (l' := [(7, .ref q9), (0, .ref (ω.2.2 0)), (1, .int a0), (2, .int a1), (3, .int a2), (4, .int a3), (5, .int a4), (6, .ref (ω.2.2 438))]) dL_act_19 rfl (rj_bl rfl) rfl ?_
        refine rj_iconst (v := 1) dL_act_21 rfl (by decide) ?_
        exact rj_iret dL_act_22 rfl (Nat.le_of_ble_eq_true rfl) (Nat.le_of_ble_eq_true rfl) ⟨by unfold fL_act; rw [hf]; decide, rfl, by unfold mL_act; rw [hf]; rfl⟩
      · refine ⟨23, ⟨[(0, 16, 19, 19)], (0, 16, 23, 13), [(0, 16, 27, 28)], "java/lang/IllegalArgumentException", rfl, by
            intro z hz
            simp only [List.mem_cons, List.not_mem_nil, or_false] at hz
            subst hz
            exact ⟨by decide, "java/lang/IndexOutOfBoundsException", by decide +kernel, by decide +kernel⟩, by decide, by decide, by decide, by decide +kernel, by decide +kernel, rfl⟩, fun q9 => ?_⟩
        refine rj_astore (l' := [(7, .ref q9), (0, .ref (ω.2.2 0)), (1, .int a0), (2, .int a1), (3, .int a2), (4, .int a3), (5, .int a4), (6, .ref (ω.2.2 438))]) dL_act_23 rfl (rj_bl rfl) rfl ?_
        refine rj_iconst (v := 2) dL_act_25 rfl (by decide) ?_
        exact rj_iret dL_act_26 rfl (Nat.le_of_ble_eq_true rfl) (Nat.le_of_ble_eq_true rfl) ⟨by unfold fL_act; rw [hf]; decide, rfl, by unfold mL_act; rw [hf]; rfl⟩
      · refine ⟨27, ⟨[(0, 16, 19, 19), (0, 16, 23, 13)], (0, 16, 27, 28), [], "java/lang/IllegalStateException", rfl, by
            intro z hz
            simp only [List.mem_cons, List.not_mem_nil, or_false] at hz
            rcases hz with rfl | rfl
            · exact ⟨by decide, "java/lang/IndexOutOfBoundsException", by decide +kernel, by decide +kernel⟩
            · exact ⟨by decide, "java/lang/IllegalArgumentException", by decide +kernel, by decide +kernel⟩, by decide, by decide, by decide, by decide +kernel, by decide +kernel, rfl⟩, fun q9 => ?_⟩
        refine rj_astore (l' := [(7, .ref q9), (0, .ref (ω.2.2 0)), (1, .int a0), (2, .int a1), (3, .int a2), (4, .int a3), (5, .int a4), (6, .ref (ω.2.2 438))]) dL_act_27 rfl (rj_bl rfl) rfl ?_
        refine rj_iconst (v := 3) dL_act_29 rfl (by decide) ?_
        exact rj_iret dL_act_30 rfl (Nat.le_of_ble_eq_true rfl) (Nat.le_of_ble_eq_true rfl) ⟨by unfold fL_act; rw [hf]; decide, rfl, by unfold mL_act; rw [hf]; rfl⟩
    · intro v hv
      cases hv
noncomputable def fL_drop (μ : rj_M) (a0 : Int32) : Int32 := Sum.elim (fun _ => 0) (rj_hc ["java/lang/IndexOutOfBoundsException"] 1) (fX11_drop μ a0)
noncomputable def mL_drop (μ : rj_M) (a0 : Int32) : rj_M := Sum.elim (fun v => rj_pl (mX11_drop μ a0) 438 0 v.toInt64) (fun _ => (mX11_drop μ a0)) (fX11_drop μ a0)
set_option maxHeartbeats 4000000 in
set_option maxRecDepth 100000 in
theorem sL_drop {g : rj_G} {ω : rj_W} (hω : rj_ok ω) (μ : rj_M) (a0 : Int32) (hq : qX11_drop μ a0) (hx : ∀ E : String, (fX11_drop μ a0) = .inr E → E ∈ ["java/lang/IndexOutOfBoundsException"]) : rj_Sp g yL_drop wsL_drop (rj_rm 8 1) [.ref (ω.2.2 0), .int a0, .ref (ω.2.2 438)] ω μ (rj_D (.inl (some (.int (fL_drop μ a0)))) ω (mL_drop μ a0)) := by
  refine rj_ofH (cc := cL_drop) (nL := 4) (ret := (some .int)) (hh := [(0, 9, 12, 19)]) (own := RL) (l0 := [(0, .ref (ω.2.2 0)), (1, .int a0), (2, .ref (ω.2.2 438))]) rfl (by decide +kernel) rfl (Nat.le_of_ble_eq_true rfl) rfl ?_
  have hM := (sX11_drop (g := g) (ω := ω) hω μ a0   hq)
  refine rj_aload_n 2 dL_drop_0 rfl rfl ?_
  refine rj_iconst (v := 0) dL_drop_1 rfl (by decide) ?_
  refine rj_aload_n 0 dL_drop_2 rfl rfl ?_
  refine rj_iload_n 1 dL_drop_3 rfl rfl ?_
  rcases hf : (fX11_drop μ a0) with v | E
  · rw [hf] at hM
    refine rj_cVh (rest := [.int 0, .ref (ω.2.2 438)]) hM gL_drop_X11_drop (rj_lt hω (k := 0) rfl) (rj_sh hω ly_0) rfl rfl hVX11_drop ⟨(Nat.le_of_ble_eq_true rfl), (Nat.le_of_ble_eq_true rfl)⟩ dL_drop_4 rfl rfl rfl (Nat.le_of_ble_eq_true rfl) rfl (Nat.le_of_ble_eq_true rfl) ?_ ?_
    · intro E hE
      cases hE
    · intro v0 hv
      cases hv
      refine rj_i2l dL_drop_7 rfl ?_
      refine rj_last dL_drop_8 rfl (rj_lt hω (k := 438) rfl) (rj_sh hω ly_438) (vp_in_nI (n := 0) (rj_bl rfl) (rj_bl rfl)) ?_
      refine rj_goto dL_drop_9 rfl ?_
      refine rj_iconst (v := 0) dL_drop_15 rfl (by decide) ?_
      exact rj_iret dL_drop_16 rfl (Nat.le_of_ble_eq_true rfl) (Nat.le_of_ble_eq_true rfl) ⟨by unfold fL_drop; rw [hf]; rfl, rfl, by unfold mL_drop; rw [hf]; rfl⟩
  · rw [hf] at hM
    have hE := hx E hf
    refine rj_cVh (rest := [.int 0, .ref (ω.2.2 438)]) hM gL_drop_X11_drop (rj_lt hω (k := 0) rfl) (rj_sh hω ly_0) rfl rfl hVX11_drop ⟨(Nat.le_of_ble_eq_true rfl), (Nat.le_of_ble_eq_true rfl)⟩ dL_drop_4 rfl rfl rfl (Nat.le_of_ble_eq_true rfl) rfl (Nat.le_of_ble_eq_true rfl) ?_ ?_
    · intro E0 hE0
      cases hE0
      simp only [List.mem_cons, List.not_mem_nil, or_false] at hE
      subst hE
      refine ⟨12, ⟨[], (0, 9, 12, 19), [], "java/lang/IndexOutOfBoundsException", rfl, (fun z hz => by cases hz), by decide, by decide, by decide, by decide +kernel, by decide +kernel, rfl⟩, fun q9 => ?_⟩
      refine rj_astore_n (l' := [(3, .ref q9), (0, .ref (ω.2.2 0)), (1, .int a0), (2, .ref (ω.2.2 438))]) dL_drop_12 rfl (rj_bl rfl) rfl ?_
      refine rj_iconst (v := 1) dL_drop_13 rfl (by decide) ?_
      exact rj_iret dL_drop_14 rfl (Nat.le_of_ble_eq_true rfl) (Nat.le_of_ble_eq_true rfl) ⟨by unfold fL_drop; rw [hf]; decide, rfl, by unfold mL_drop; rw [hf]; rfl⟩
    · intro v hv
      cases hv
noncomputable def fL_wish (μ : rj_M) (a0 : Int32) (a1 : Int32) (a2 : Int32) : Int32 := Sum.elim (fun _ => 0) (rj_hc ["java/lang/IndexOutOfBoundsException", "java/lang/IllegalArgumentException"] 1) (fX11_wish μ a0 a1 a2)
noncomputable def mL_wish (μ : rj_M) (a0 : Int32) (a1 : Int32) (a2 : Int32) : rj_M := Sum.elim (fun v => rj_pl (mX11_wish μ a0 a1 a2) 438 0 v.toInt64) (fun _ => (mX11_wish μ a0 a1 a2)) (fX11_wish μ a0 a1 a2)
set_option maxHeartbeats 4000000 in
set_option maxRecDepth 100000 in
theorem sL_wish {g : rj_G} {ω : rj_W} (hω : rj_ok ω) (μ : rj_M) (a0 : Int32) (a1 : Int32) (a2 : Int32) (hq : qX11_wish μ a0 a1 a2) (hx : ∀ E : String, (fX11_wish μ a0 a1 a2) = .inr E → E ∈ ["java/lang/IndexOutOfBoundsException", "java/lang/IllegalArgumentException"]) : rj_Sp g yL_wish wsL_wish (rj_rm 8 3) [.ref (ω.2.2 0), .int a0, .int a1, .int a2, .ref (ω.2.2 438)] ω μ (rj_D (.inl (some (.int (fL_wish μ a0 a1 a2)))) ω (mL_wish μ a0 a1 a2)) := by
  refine rj_ofH (cc := cL_wish) (nL := 6) (ret := (some .int)) (hh := [(0, 12, 15, 19), (0, 12, 19, 13)]) (own := RL) (l0 := [(0, .ref (ω.2.2 0)), (1, .int a0), (2, .int a1), (3, .int a2), (4, .ref (ω.2.2 438))]) rfl (by decide +kernel) rfl (Nat.le_of_ble_eq_true rfl) rfl ?_
  have hM := (sX11_wish (g := g) (ω := ω) hω μ a0 a1 a2   hq)
  refine rj_aload 4 dL_wish_0 rfl rfl ?_
  refine rj_iconst (v := 0) dL_wish_2 rfl (by decide) ?_
  refine rj_aload_n 0 dL_wish_3 rfl rfl ?_
  refine rj_iload_n 1 dL_wish_4 rfl rfl ?_
  refine rj_iload_n 2 dL_wish_5 rfl rfl ?_
  refine rj_iload_n 3 dL_wish_6 rfl rfl ?_
  rcases hf : (fX11_wish μ a0 a1 a2) with v | E
  · rw [hf] at hM
    refine rj_cVh (rest := [.int 0, .ref (ω.2.2 438)]) hM gL_wish_X11_wish (rj_lt hω (k := 0) rfl) (rj_sh hω ly_0) rfl rfl hVX11_wish ⟨(Nat.le_of_ble_eq_true rfl), (Nat.le_of_ble_eq_true rfl)⟩ dL_wish_7 rfl rfl rfl (Nat.le_of_ble_eq_true rfl) rfl (Nat.le_of_ble_eq_true rfl) ?_ ?_
    · intro E hE
      cases hE
    · intro v0 hv
      cases hv
      refine rj_i2l dL_wish_10 rfl ?_
      refine rj_last dL_wish_11 rfl (rj_lt hω (k := 438) rfl) (rj_sh hω ly_438) (vp_in_nI (n := 0) (rj_bl rfl) (rj_bl rfl)) ?_
      refine rj_goto dL_wish_12 rfl ?_
      refine rj_iconst (v := 0) dL_wish_23 rfl (by decide) ?_
      exact rj_iret dL_wish_24 rfl (Nat.le_of_ble_eq_true rfl) (Nat.le_of_ble_eq_true rfl) ⟨by unfold fL_wish; rw [hf]; rfl, rfl, by unfold mL_wish; rw [hf]; rfl⟩
  · rw [hf] at hM
    have hE := hx E hf
    refine rj_cVh (rest := [.int 0, .ref (ω.2.2 438)]) hM gL_wish_X11_wish (rj_lt hω (k := 0) rfl) (rj_sh hω ly_0) rfl rfl hVX11_wish ⟨(Nat.le_of_ble_eq_true rfl), (Nat.le_of_ble_eq_true rfl)⟩ dL_wish_7 rfl rfl rfl (Nat.le_of_ble_eq_true rfl) rfl (Nat.le_of_ble_eq_true rfl) ?_ ?_
    · intro E0 hE0
      cases hE0
      simp only [List.mem_cons, List.not_mem_nil, or_false] at hE
      rcases hE with rfl | rfl
      · refine ⟨15, ⟨[], (0, 12, 15, 19), [(0, 12, 19, 13)], "java/lang/IndexOutOfBoundsException", rfl, (fun z hz => by cases hz), by decide, by decide, by decide, by decide +kernel, by decide +kernel, rfl⟩, fun q9 => ?_⟩
        refine rj_astore (l' := [(5, .ref q9), (0, .ref (ω.2.2 0)), (1, .int a0), (2, .int a1), (3, .int a2), (4, .ref (ω.2.2 438))]) dL_wish_15 rfl (rj_bl rfl) rfl ?_
        refine rj_iconst (v := 1) dL_wish_17 rfl (by decide) ?_
        exact rj_iret dL_wish_18 rfl (Nat.le_of_ble_eq_true rfl) (Nat.le_of_ble_eq_true rfl) ⟨by unfold fL_wish; rw [hf]; decide, rfl, by unfold mL_wish; rw [hf]; rfl⟩
      · refine ⟨19, ⟨[(0, 12, 15, 19)], (0, 12, 19, 13), [], "java/lang/IllegalArgumentException", rfl, by
            intro z hz
            simp only [List.mem_cons, List.not_mem_nil, or_false] at hz
            subst hz
            exact ⟨by decide, "java/lang/IndexOutOfBoundsException", by decide +kernel, by decide +kernel⟩, by decide, by decide, by decide, by decide +kernel, by decide +kernel, rfl⟩, fun q9 => ?_⟩
        refine rj_astore (l' := [(5, .ref q9), (0, .ref (ω.2.2 0)), (1, .int a0), (2, .int a1), (3, .int a2), (4, .ref (ω.2.2 438))]) dL_wish_19 rfl (rj_bl rfl) rfl ?_
        refine rj_iconst (v := 2) dL_wish_21 rfl (by decide) ?_
        exact rj_iret dL_wish_22 rfl (Nat.le_of_ble_eq_true rfl) (Nat.le_of_ble_eq_true rfl) ⟨by unfold fL_wish; rw [hf]; decide, rfl, by unfold mL_wish; rw [hf]; rfl⟩
    · intro v hv
      cases hv
noncomputable def fL_setGate (μ : rj_M) (a0 : Int32) (a1 : Int32) : Int32 := Sum.elim (fun _ => 0) (rj_hc ["java/lang/IndexOutOfBoundsException", "java/lang/IllegalArgumentException"] 1) (fX11_setGate μ a0 a1)
noncomputable def mL_setGate (μ : rj_M) (a0 : Int32) (a1 : Int32) : rj_M := Sum.elim (fun v => rj_pl (mX11_setGate μ a0 a1) 438 0 v.toInt64) (fun _ => (mX11_setGate μ a0 a1)) (fX11_setGate μ a0 a1)
set_option maxHeartbeats 4000000 in
set_option maxRecDepth 100000 in
theorem sL_setGate {g : rj_G} {ω : rj_W} (hω : rj_ok ω) (μ : rj_M) (a0 : Int32) (a1 : Int32) (hq : qX11_setGate μ a0 a1) (hx : ∀ E : String, (fX11_setGate μ a0 a1) = .inr E → E ∈ ["java/lang/IndexOutOfBoundsException", "java/lang/IllegalArgumentException"]) : rj_Sp g yL_setGate wsL_setGate (rj_rm 8 2) [.ref (ω.2.2 0), .int a0, .int a1, .ref (ω.2.2 438)] ω μ (rj_D (.inl (some (.int (fL_setGate μ a0 a1)))) ω (mL_setGate μ a0 a1)) := by
  refine rj_ofH (cc := cL_setGate) (nL := 5) (ret := (some .int)) (hh := [(0, 10, 13, 19), (0, 10, 17, 13)]) (own := RL) (l0 := [(0, .ref (ω.2.2 0)), (1, .int a0), (2, .int a1), (3, .ref (ω.2.2 438))]) rfl (by decide +kernel) rfl (Nat.le_of_ble_eq_true rfl) rfl ?_
  have hM := (sX11_setGate (g := g) (ω := ω) hω μ a0 a1   hq)
  refine rj_aload_n 3 dL_setGate_0 rfl rfl ?_
  refine rj_iconst (v := 0) dL_setGate_1 rfl (by decide) ?_
  refine rj_aload_n 0 dL_setGate_2 rfl rfl ?_
  refine rj_iload_n 1 dL_setGate_3 rfl rfl ?_
  refine rj_iload_n 2 dL_setGate_4 rfl rfl ?_
  rcases hf : (fX11_setGate μ a0 a1) with v | E
  · rw [hf] at hM
    refine rj_cVh (rest := [.int 0, .ref (ω.2.2 438)]) hM gL_setGate_X11_setGate (rj_lt hω (k := 0) rfl) (rj_sh hω ly_0) rfl rfl hVX11_setGate ⟨(Nat.le_of_ble_eq_true rfl), (Nat.le_of_ble_eq_true rfl)⟩ dL_setGate_5 rfl rfl rfl (Nat.le_of_ble_eq_true rfl) rfl (Nat.le_of_ble_eq_true rfl) ?_ ?_
    · intro E hE
      cases hE
    · intro v0 hv
      cases hv
      refine rj_i2l dL_setGate_8 rfl ?_
      refine rj_last dL_setGate_9 rfl (rj_lt hω (k := 438) rfl) (rj_sh hω ly_438) (vp_in_nI (n := 0) (rj_bl rfl) (rj_bl rfl)) ?_
      refine rj_goto dL_setGate_10 rfl ?_
      refine rj_iconst (v := 0) dL_setGate_21 rfl (by decide) ?_
      exact rj_iret dL_setGate_22 rfl (Nat.le_of_ble_eq_true rfl) (Nat.le_of_ble_eq_true rfl) ⟨by unfold fL_setGate; rw [hf]; rfl, rfl, by unfold mL_setGate; rw [hf]; rfl⟩
  · rw [hf] at hM
    have hE := hx E hf
    refine rj_cVh (rest := [.int 0, .ref (ω.2.2 438)]) hM gL_setGate_X11_setGate (rj_lt hω (k := 0) rfl) (rj_sh hω ly_0) rfl rfl hVX11_setGate ⟨(Nat.le_of_ble_eq_true rfl), (Nat.le_of_ble_eq_true rfl)⟩ dL_setGate_5 rfl rfl rfl (Nat.le_of_ble_eq_true rfl) rfl (Nat.le_of_ble_eq_true rfl) ?_ ?_
    · intro E0 hE0
      cases hE0
      simp only [List.mem_cons, List.not_mem_nil, or_false] at hE
      rcases hE with rfl | rfl
      · refine ⟨13, ⟨[], (0, 10, 13, 19), [(0, 10, 17, 13)], "java/lang/IndexOutOfBoundsException", rfl, (fun z hz => by cases hz), by decide, by decide, by decide, by decide +kernel, by decide +kernel, rfl⟩, fun q9 => ?_⟩
        refine rj_astore (l' := [(4, .ref q9), (0, .ref (ω.2.2 0)), (1, .int a0), (2, .int a1), (3, .ref (ω.2.2 438))]) dL_setGate_13 rfl (rj_bl rfl) rfl ?_
        refine rj_iconst (v := 1) dL_setGate_15 rfl (by decide) ?_
        exact rj_iret dL_setGate_16 rfl (Nat.le_of_ble_eq_true rfl) (Nat.le_of_ble_eq_true rfl) ⟨by unfold fL_setGate; rw [hf]; decide, rfl, by unfold mL_setGate; rw [hf]; rfl⟩
      · refine ⟨17, ⟨[(0, 10, 13, 19)], (0, 10, 17, 13), [], "java/lang/IllegalArgumentException", rfl, by
            intro z hz
            simp only [List.mem_cons, List.not_mem_nil, or_false] at hz
            subst hz
            exact ⟨by decide, "java/lang/IndexOutOfBoundsException", by decide +kernel, by decide +kernel⟩, by decide, by decide, by decide, by decide +kernel, by decide +kernel, rfl⟩, fun q9 => ?_⟩
        refine rj_astore (l' := [(4, .ref q9), (0, .ref (ω.2.2 0)), (1, .int a0), (2, .int a1), (3, .ref (ω.2.2 438))]) dL_setGate_17 rfl (rj_bl rfl) rfl ?_
        refine rj_iconst (v := 2) dL_setGate_19 rfl (by decide) ?_
        exact rj_iret dL_setGate_20 rfl (Nat.le_of_ble_eq_true rfl) (Nat.le_of_ble_eq_true rfl) ⟨by unfold fL_setGate; rw [hf]; decide, rfl, by unfold mL_setGate; rw [hf]; rfl⟩
    · intro v hv
      cases hv
noncomputable def fL_setReach (μ : rj_M) (a0 : Int32) (a1 : Int32) (a2 : Int32) : Int32 := Sum.elim (fun _ => 0) (rj_hc ["java/lang/IndexOutOfBoundsException", "java/lang/IllegalArgumentException"] 1) (fX11_setReach μ a0 a1 a2)
noncomputable def mL_setReach (μ : rj_M) (a0 : Int32) (a1 : Int32) (a2 : Int32) : rj_M := Sum.elim (fun v => rj_pl (mX11_setReach μ a0 a1 a2) 438 0 v.toInt64) (fun _ => (mX11_setReach μ a0 a1 a2)) (fX11_setReach μ a0 a1 a2)
set_option maxHeartbeats 4000000 in
set_option maxRecDepth 100000 in
theorem sL_setReach {g : rj_G} {ω : rj_W} (hω : rj_ok ω) (μ : rj_M) (a0 : Int32) (a1 : Int32) (a2 : Int32) (hq : qX11_setReach μ a0 a1 a2) (hx : ∀ E : String, (fX11_setReach μ a0 a1 a2) = .inr E → E ∈ ["java/lang/IndexOutOfBoundsException", "java/lang/IllegalArgumentException"]) : rj_Sp g yL_setReach wsL_setReach (rj_rm 8 3) [.ref (ω.2.2 0), .int a0, .int a1, .int a2, .ref (ω.2.2 438)] ω μ (rj_D (.inl (some (.int (fL_setReach μ a0 a1 a2)))) ω (mL_setReach μ a0 a1 a2)) := by
  refine rj_ofH (cc := cL_setReach) (nL := 6) (ret := (some .int)) (hh := [(0, 12, 15, 19), (0, 12, 19, 13)]) (own := RL) (l0 := [(0, .ref (ω.2.2 0)), (1, .int a0), (2, .int a1), (3, .int a2), (4, .ref (ω.2.2 438))]) rfl (by decide +kernel) rfl (Nat.le_of_ble_eq_true rfl) rfl ?_
  have hM := (sX11_setReach (g := g) (ω := ω) hω μ a0 a1 a2   hq)
  refine rj_aload 4 dL_setReach_0 rfl rfl ?_
  refine rj_iconst (v := 0) dL_setReach_2 rfl (by decide) ?_
  refine rj_aload_n 0 dL_setReach_3 rfl rfl ?_
  refine rj_iload_n 1 dL_setReach_4 rfl rfl ?_
  refine rj_iload_n 2 dL_setReach_5 rfl rfl ?_
  refine rj_iload_n 3 dL_setReach_6 rfl rfl ?_
  rcases hf : (fX11_setReach μ a0 a1 a2) with v | E
  · rw [hf] at hM
    refine rj_cVh (rest := [.int 0, .ref (ω.2.2 438)]) hM gL_setReach_X11_setReach (rj_lt hω (k := 0) rfl) (rj_sh hω ly_0) rfl rfl hVX11_setReach ⟨(Nat.le_of_ble_eq_true rfl), (Nat.le_of_ble_eq_true rfl)⟩ dL_setReach_7 rfl rfl rfl (Nat.le_of_ble_eq_true rfl) rfl (Nat.le_of_ble_eq_true rfl) ?_ ?_
    · intro E hE
      cases hE
    · intro v0 hv
      cases hv
      refine rj_i2l dL_setReach_10 rfl ?_
      refine rj_last dL_setReach_11 rfl (rj_lt hω (k := 438) rfl) (rj_sh hω ly_438) (vp_in_nI (n := 0) (rj_bl rfl) (rj_bl rfl)) ?_
      refine rj_goto dL_setReach_12 rfl ?_
      refine rj_iconst (v := 0) dL_setReach_23 rfl (by decide) ?_
      exact rj_iret dL_setReach_24 rfl (Nat.le_of_ble_eq_true rfl) (Nat.le_of_ble_eq_true rfl) ⟨by unfold fL_setReach; rw [hf]; rfl, rfl, by unfold mL_setReach; rw [hf]; rfl⟩
  · rw [hf] at hM
    have hE := hx E hf
    refine rj_cVh (rest := [.int 0, .ref (ω.2.2 438)]) hM gL_setReach_X11_setReach (rj_lt hω (k := 0) rfl) (rj_sh hω ly_0) rfl rfl hVX11_setReach ⟨(Nat.le_of_ble_eq_true rfl), (Nat.le_of_ble_eq_true rfl)⟩ dL_setReach_7 rfl rfl rfl (Nat.le_of_ble_eq_true rfl) rfl (Nat.le_of_ble_eq_true rfl) ?_ ?_
    · intro E0 hE0
      cases hE0
      simp only [List.mem_cons, List.not_mem_nil, or_false] at hE
      rcases hE with rfl | rfl
      · refine ⟨15, ⟨[], (0, 12, 15, 19), [(0, 12, 19, 13)], "java/lang/IndexOutOfBoundsException", rfl, (fun z hz => by cases hz), by decide, by decide, by decide, by decide +kernel, by decide +kernel, rfl⟩, fun q9 => ?_⟩
        refine rj_astore (l' := [(5, .ref q9), (0, .ref (ω.2.2 0)), (1, .int a0), (2, .int a1), (3, .int a2), (4, .ref (ω.2.2 438))]) dL_setReach_15 rfl (rj_bl rfl) rfl ?_
        refine rj_iconst (v := 1) dL_setReach_17 rfl (by decide) ?_
        exact rj_iret dL_setReach_18 rfl (Nat.le_of_ble_eq_true rfl) (Nat.le_of_ble_eq_true rfl) ⟨by unfold fL_setReach; rw [hf]; decide, rfl, by unfold mL_setReach; rw [hf]; rfl⟩
      · refine ⟨19, ⟨[(0, 12, 15, 19)], (0, 12, 19, 13), [], "java/lang/IllegalArgumentException", rfl, by
            intro z hz
            simp only [List.mem_cons, List.not_mem_nil, or_false] at hz
            subst hz
            exact ⟨by decide, "java/lang/IndexOutOfBoundsException", by decide +kernel, by decide +kernel⟩, by decide, by decide, by decide, by decide +kernel, by decide +kernel, rfl⟩, fun q9 => ?_⟩
        refine rj_astore (l' := [(5, .ref q9), (0, .ref (ω.2.2 0)), (1, .int a0), (2, .int a1), (3, .int a2), (4, .ref (ω.2.2 438))]) dL_setReach_19 rfl (rj_bl rfl) rfl ?_
        refine rj_iconst (v := 2) dL_setReach_21 rfl (by decide) ?_
        exact rj_iret dL_setReach_22 rfl (Nat.le_of_ble_eq_true rfl) (Nat.le_of_ble_eq_true rfl) ⟨by unfold fL_setReach; rw [hf]; decide, rfl, by unfold mL_setReach; rw [hf]; rfl⟩
    · intro v hv
      cases hv
noncomputable def fL_setCrowd (μ : rj_M) (a0 : Int32) (a1 : Int32) : Int32 := Sum.elim (fun _ => 0) (rj_hc ["java/lang/IndexOutOfBoundsException", "java/lang/IllegalArgumentException"] 1) (fX11_setCrowd μ a0 a1)
noncomputable def mL_setCrowd (μ : rj_M) (a0 : Int32) (a1 : Int32) : rj_M := Sum.elim (fun v => rj_pl (mX11_setCrowd μ a0 a1) 438 0 v.toInt64) (fun _ => (mX11_setCrowd μ a0 a1)) (fX11_setCrowd μ a0 a1)
set_option maxHeartbeats 4000000 in
set_option maxRecDepth 100000 in
theorem sL_setCrowd {g : rj_G} {ω : rj_W} (hω : rj_ok ω) (μ : rj_M) (a0 : Int32) (a1 : Int32) (hq : qX11_setCrowd μ a0 a1) (hx : ∀ E : String, (fX11_setCrowd μ a0 a1) = .inr E → E ∈ ["java/lang/IndexOutOfBoundsException", "java/lang/IllegalArgumentException"]) : rj_Sp g yL_setCrowd wsL_setCrowd (rj_rm 8 2) [.ref (ω.2.2 0), .int a0, .int a1, .ref (ω.2.2 438)] ω μ (rj_D (.inl (some (.int (fL_setCrowd μ a0 a1)))) ω (mL_setCrowd μ a0 a1)) := by
  refine rj_ofH (cc := cL_setCrowd) (nL := 5) (ret := (some .int)) (hh := [(0, 10, 13, 19), (0, 10, 17, 13)]) (own := RL) (l0 := [(0, .ref (ω.2.2 0)), (1, .int a0), (2, .int a1), (3, .ref (ω.2.2 438))]) rfl (by decide +kernel) rfl (Nat.le_of_ble_eq_true rfl) rfl ?_
  have hM := (sX11_setCrowd (g := g) (ω := ω) hω μ a0 a1   hq)
  refine rj_aload_n 3 dL_setCrowd_0 rfl rfl ?_
  refine rj_iconst (v := 0) dL_setCrowd_1 rfl (by decide) ?_
  refine rj_aload_n 0 dL_setCrowd_2 rfl rfl ?_
  refine rj_iload_n 1 dL_setCrowd_3 rfl rfl ?_
  refine rj_iload_n 2 dL_setCrowd_4 rfl rfl ?_
  rcases hf : (fX11_setCrowd μ a0 a1) with v | E
  · rw [hf] at hM
    refine rj_cVh (rest := [.int 0, .ref (ω.2.2 438)]) hM gL_setCrowd_X11_setCrowd (rj_lt hω (k := 0) rfl) (rj_sh hω ly_0) rfl rfl hVX11_setCrowd ⟨(Nat.le_of_ble_eq_true rfl), (Nat.le_of_ble_eq_true rfl)⟩ dL_setCrowd_5 rfl rfl rfl (Nat.le_of_ble_eq_true rfl) rfl (Nat.le_of_ble_eq_true rfl) ?_ ?_
    · intro E hE
      cases hE
    · intro v0 hv
      cases hv
      refine rj_i2l dL_setCrowd_8 rfl ?_
      refine rj_last dL_setCrowd_9 rfl (rj_lt hω (k := 438) rfl) (rj_sh hω ly_438) (vp_in_nI (n := 0) (rj_bl rfl) (rj_bl rfl)) ?_
      refine rj_goto dL_setCrowd_10 rfl ?_
      refine rj_iconst (v := 0) dL_setCrowd_21 rfl (by decide) ?_
      exact rj_iret dL_setCrowd_22 rfl (Nat.le_of_ble_eq_true rfl) (Nat.le_of_ble_eq_true rfl) ⟨by unfold fL_setCrowd; rw [hf]; rfl, rfl, by unfold mL_setCrowd; rw [hf]; rfl⟩
  · rw [hf] at hM
    have hE := hx E hf
    refine rj_cVh (rest := [.int 0, .ref (ω.2.2 438)]) hM gL_setCrowd_X11_setCrowd (rj_lt hω (k := 0) rfl) (rj_sh hω ly_0) rfl rfl hVX11_setCrowd ⟨(Nat.le_of_ble_eq_true rfl), (Nat.le_of_ble_eq_true rfl)⟩ dL_setCrowd_5 rfl rfl rfl (Nat.le_of_ble_eq_true rfl) rfl (Nat.le_of_ble_eq_true rfl) ?_ ?_
    · intro E0 hE0
      cases hE0
      simp only [List.mem_cons, List.not_mem_nil, or_false] at hE
      rcases hE with rfl | rfl
      · refine ⟨13, ⟨[], (0, 10, 13, 19), [(0, 10, 17, 13)], "java/lang/IndexOutOfBoundsException", rfl, (fun z hz => by cases hz), by decide, by decide, by decide, by decide +kernel, by decide +kernel, rfl⟩, fun q9 => ?_⟩
        refine rj_astore (l' := [(4, .ref q9), (0, .ref (ω.2.2 0)), (1, .int a0), (2, .int a1), (3, .ref (ω.2.2 438))]) dL_setCrowd_13 rfl (rj_bl rfl) rfl ?_
        refine rj_iconst (v := 1) dL_setCrowd_15 rfl (by decide) ?_
        exact rj_iret dL_setCrowd_16 rfl (Nat.le_of_ble_eq_true rfl) (Nat.le_of_ble_eq_true rfl) ⟨by unfold fL_setCrowd; rw [hf]; decide, rfl, by unfold mL_setCrowd; rw [hf]; rfl⟩
      · refine ⟨17, ⟨[(0, 10, 13, 19)], (0, 10, 17, 13), [], "java/lang/IllegalArgumentException", rfl, by
            intro z hz
            simp only [List.mem_cons, List.not_mem_nil, or_false] at hz
            subst hz
            exact ⟨by decide, "java/lang/IndexOutOfBoundsException", by decide +kernel, by decide +kernel⟩, by decide, by decide, by decide, by decide +kernel, by decide +kernel, rfl⟩, fun q9 => ?_⟩
        refine rj_astore (l' := [(4, .ref q9), (0, .ref (ω.2.2 0)), (1, .int a0), (2, .int a1), (3, .ref (ω.2.2 438))]) dL_setCrowd_17 rfl (rj_bl rfl) rfl ?_
        refine rj_iconst (v := 2) dL_setCrowd_19 rfl (by decide) ?_
        exact rj_iret dL_setCrowd_20 rfl (Nat.le_of_ble_eq_true rfl) (Nat.le_of_ble_eq_true rfl) ⟨by unfold fL_setCrowd; rw [hf]; decide, rfl, by unfold mL_setCrowd; rw [hf]; rfl⟩
    · intro v hv
      cases hv
noncomputable def fL_setServing (μ : rj_M) (a0 : Int32) : Int32 := Sum.elim (fun _ => 0) (rj_hc ["java/lang/IllegalArgumentException"] 1) (fX11_setServing μ a0)
noncomputable def mL_setServing (μ : rj_M) (a0 : Int32) : rj_M := Sum.elim (fun v => rj_pl (mX11_setServing μ a0) 438 0 v.toInt64) (fun _ => (mX11_setServing μ a0)) (fX11_setServing μ a0)
set_option maxHeartbeats 4000000 in
set_option maxRecDepth 100000 in
theorem sL_setServing {g : rj_G} {ω : rj_W} (hω : rj_ok ω) (μ : rj_M) (a0 : Int32) (hq : qX11_setServing μ a0) (hx : ∀ E : String, (fX11_setServing μ a0) = .inr E → E ∈ ["java/lang/IllegalArgumentException"]) : rj_Sp g yL_setServing wsL_setServing (rj_rm 8 1) [.ref (ω.2.2 0), .int a0, .ref (ω.2.2 438)] ω μ (rj_D (.inl (some (.int (fL_setServing μ a0)))) ω (mL_setServing μ a0)) := by
  refine rj_ofH (cc := cL_setServing) (nL := 4) (ret := (some .int)) (hh := [(0, 9, 12, 13)]) (own := RL) (l0 := [(0, .ref (ω.2.2 0)), (1, .int a0), (2, .ref (ω.2.2 438))]) rfl (by decide +kernel) rfl (Nat.le_of_ble_eq_true rfl) rfl ?_
  have hM := (sX11_setServing (g := g) (ω := ω) hω μ a0   hq)
  refine rj_aload_n 2 dL_setServing_0 rfl rfl ?_
  refine rj_iconst (v := 0) dL_setServing_1 rfl (by decide) ?_
  refine rj_aload_n 0 dL_setServing_2 rfl rfl ?_
  refine rj_iload_n 1 dL_setServing_3 rfl rfl ?_
  rcases hf : (fX11_setServing μ a0) with v | E
  · rw [hf] at hM
    refine rj_cVh (rest := [.int 0, .ref (ω.2.2 438)]) hM gL_setServing_X11_setServing (rj_lt hω (k := 0) rfl) (rj_sh hω ly_0) rfl rfl hVX11_setServing ⟨(Nat.le_of_ble_eq_true rfl), (Nat.le_of_ble_eq_true rfl)⟩ dL_setServing_4 rfl rfl rfl (Nat.le_of_ble_eq_true rfl) rfl (Nat.le_of_ble_eq_true rfl) ?_ ?_
    · intro E hE
      cases hE
    · intro v0 hv
      cases hv
      refine rj_i2l dL_setServing_7 rfl ?_
      refine rj_last dL_setServing_8 rfl (rj_lt hω (k := 438) rfl) (rj_sh hω ly_438) (vp_in_nI (n := 0) (rj_bl rfl) (rj_bl rfl)) ?_
      refine rj_goto dL_setServing_9 rfl ?_
      refine rj_iconst (v := 0) dL_setServing_15 rfl (by decide) ?_
      exact rj_iret dL_setServing_16 rfl (Nat.le_of_ble_eq_true rfl) (Nat.le_of_ble_eq_true rfl) ⟨by unfold fL_setServing; rw [hf]; rfl, rfl, by unfold mL_setServing; rw [hf]; rfl⟩
  · rw [hf] at hM
    have hE := hx E hf
    refine rj_cVh (rest := [.int 0, .ref (ω.2.2 438)]) hM gL_setServing_X11_setServing (rj_lt hω (k := 0) rfl) (rj_sh hω ly_0) rfl rfl hVX11_setServing ⟨(Nat.le_of_ble_eq_true rfl), (Nat.le_of_ble_eq_true rfl)⟩ dL_setServing_4 rfl rfl rfl (Nat.le_of_ble_eq_true rfl) rfl (Nat.le_of_ble_eq_true rfl) ?_ ?_
    · intro E0 hE0
      cases hE0
      simp only [List.mem_cons, List.not_mem_nil, or_false] at hE
      subst hE
      refine ⟨12, ⟨[], (0, 9, 12, 13), [], "java/lang/IllegalArgumentException", rfl, (fun z hz => by cases hz), by decide, by decide, by decide, by decide +kernel, by decide +kernel, rfl⟩, fun q9 => ?_⟩
      refine rj_astore_n (l' := [(3, .ref q9), (0, .ref (ω.2.2 0)), (1, .int a0), (2, .ref (ω.2.2 438))]) dL_setServing_12 rfl (rj_bl rfl) rfl ?_
      refine rj_iconst (v := 1) dL_setServing_13 rfl (by decide) ?_
      exact rj_iret dL_setServing_14 rfl (Nat.le_of_ble_eq_true rfl) (Nat.le_of_ble_eq_true rfl) ⟨by unfold fL_setServing; rw [hf]; decide, rfl, by unfold mL_setServing; rw [hf]; rfl⟩
    · intro v hv
      cases hv
noncomputable def fL_join (μ : rj_M) (a0 : Int32) (a1 : Int32) : Int32 := Sum.elim (fun _ => 0) (rj_hc ["java/lang/IndexOutOfBoundsException", "java/lang/IllegalStateException"] 1) (fX11_join μ a0 a1)
noncomputable def mL_join (μ : rj_M) (a0 : Int32) (a1 : Int32) : rj_M := Sum.elim (fun v => rj_pl (mX11_join μ a0 a1) 438 0 v.toInt64) (fun _ => (mX11_join μ a0 a1)) (fX11_join μ a0 a1)
set_option maxHeartbeats 4000000 in
set_option maxRecDepth 100000 in
theorem sL_join {g : rj_G} {ω : rj_W} (hω : rj_ok ω) (μ : rj_M) (a0 : Int32) (a1 : Int32) (hq : qX11_join μ a0 a1) (hx : ∀ E : String, (fX11_join μ a0 a1) = .inr E → E ∈ ["java/lang/IndexOutOfBoundsException", "java/lang/IllegalStateException"]) : rj_Sp g yL_join wsL_join (rj_rm 8 3) [.ref (ω.2.2 0), .int a0, .int a1, .ref (ω.2.2 438)] ω μ (rj_D (.inl (some (.int (fL_join μ a0 a1)))) ω (mL_join μ a0 a1)) := by
  refine rj_ofH (cc := cL_join) (nL := 5) (ret := (some .int)) (hh := [(0, 10, 13, 19), (0, 10, 17, 28)]) (own := RL) (l0 := [(0, .ref (ω.2.2 0)), (1, .int a0), (2, .int a1), (3, .ref (ω.2.2 438))]) rfl (by decide +kernel) rfl (Nat.le_of_ble_eq_true rfl) rfl ?_
  have hM := (sX11_join (g := g) (ω := ω) hω μ a0 a1   hq)
  refine rj_aload_n 3 dL_join_0 rfl rfl ?_
  refine rj_iconst (v := 0) dL_join_1 rfl (by decide) ?_
  refine rj_aload_n 0 dL_join_2 rfl rfl ?_
  refine rj_iload_n 1 dL_join_3 rfl rfl ?_
  refine rj_iload_n 2 dL_join_4 rfl rfl ?_
  rcases hf : (fX11_join μ a0 a1) with v | E
  · rw [hf] at hM
    refine rj_cVh (rest := [.int 0, .ref (ω.2.2 438)]) hM gL_join_X11_join (rj_lt hω (k := 0) rfl) (rj_sh hω ly_0) rfl rfl hVX11_join ⟨(Nat.le_of_ble_eq_true rfl), (Nat.le_of_ble_eq_true rfl)⟩ dL_join_5 rfl rfl rfl (Nat.le_of_ble_eq_true rfl) rfl (Nat.le_of_ble_eq_true rfl) ?_ ?_
    · intro E hE
      cases hE
    · intro v0 hv
      cases hv
      refine rj_i2l dL_join_8 rfl ?_
      refine rj_last dL_join_9 rfl (rj_lt hω (k := 438) rfl) (rj_sh hω ly_438) (vp_in_nI (n := 0) (rj_bl rfl) (rj_bl rfl)) ?_
      refine rj_goto dL_join_10 rfl ?_
      refine rj_iconst (v := 0) dL_join_21 rfl (by decide) ?_
      exact rj_iret dL_join_22 rfl (Nat.le_of_ble_eq_true rfl) (Nat.le_of_ble_eq_true rfl) ⟨by unfold fL_join; rw [hf]; rfl, rfl, by unfold mL_join; rw [hf]; rfl⟩
  · rw [hf] at hM
    have hE := hx E hf
    refine rj_cVh (rest := [.int 0, .ref (ω.2.2 438)]) hM gL_join_X11_join (rj_lt hω (k := 0) rfl) (rj_sh hω ly_0) rfl rfl hVX11_join ⟨(Nat.le_of_ble_eq_true rfl), (Nat.le_of_ble_eq_true rfl)⟩ dL_join_5 rfl rfl rfl (Nat.le_of_ble_eq_true rfl) rfl (Nat.le_of_ble_eq_true rfl) ?_ ?_
    · intro E0 hE0
      cases hE0
      simp only [List.mem_cons, List.not_mem_nil, or_false] at hE
      rcases hE with rfl | rfl
      · refine ⟨13, ⟨[], (0, 10, 13, 19), [(0, 10, 17, 28)], "java/lang/IndexOutOfBoundsException", rfl, (fun z hz => by cases hz), by decide, by decide, by decide, by decide +kernel, by decide +kernel, rfl⟩, fun q9 => ?_⟩
        refine rj_astore (l' := [(4, .ref q9), (0, .ref (ω.2.2 0)), (1, .int a0), (2, .int a1), (3, .ref (ω.2.2 438))]) dL_join_13 rfl (rj_bl rfl) rfl ?_
        refine rj_iconst (v := 1) dL_join_15 rfl (by decide) ?_
        exact rj_iret dL_join_16 rfl (Nat.le_of_ble_eq_true rfl) (Nat.le_of_ble_eq_true rfl) ⟨by unfold fL_join; rw [hf]; decide, rfl, by unfold mL_join; rw [hf]; rfl⟩
      · refine ⟨17, ⟨[(0, 10, 13, 19)], (0, 10, 17, 28), [], "java/lang/IllegalStateException", rfl, by
            intro z hz
            simp only [List.mem_cons, List.not_mem_nil, or_false] at hz
            subst hz
            exact ⟨by decide, "java/lang/IndexOutOfBoundsException", by decide +kernel, by decide +kernel⟩, by decide, by decide, by decide, by decide +kernel, by decide +kernel, rfl⟩, fun q9 => ?_⟩
        refine rj_astore (l' := [(4, .ref q9), (0, .ref (ω.2.2 0)), (1, .int a0), (2, .int a1), (3, .ref (ω.2.2 438))]) dL_join_17 rfl (rj_bl rfl) rfl ?_
        refine rj_iconst (v := 2) dL_join_19 rfl (by decide) ?_
        exact rj_iret dL_join_20 rfl (Nat.le_of_ble_eq_true rfl) (Nat.le_of_ble_eq_true rfl) ⟨by unfold fL_join; rw [hf]; decide, rfl, by unfold mL_join; rw [hf]; rfl⟩
    · intro v hv
      cases hv
noncomputable def fL_leave (μ : rj_M) (a0 : Int32) : Int32 := Sum.elim (fun _ => 0) (rj_hc ["java/lang/IndexOutOfBoundsException", "java/lang/IllegalStateException"] 1) (fX11_leave μ a0)
noncomputable def mL_leave (μ : rj_M) (a0 : Int32) : rj_M := Sum.elim (fun v => rj_pl (mX11_leave μ a0) 438 0 v.toInt64) (fun _ => (mX11_leave μ a0)) (fX11_leave μ a0)
set_option maxHeartbeats 4000000 in
set_option maxRecDepth 100000 in
theorem sL_leave {g : rj_G} {ω : rj_W} (hω : rj_ok ω) (μ : rj_M) (a0 : Int32) (hq : qX11_leave μ a0) (hx : ∀ E : String, (fX11_leave μ a0) = .inr E → E ∈ ["java/lang/IndexOutOfBoundsException", "java/lang/IllegalStateException"]) : rj_Sp g yL_leave wsL_leave (rj_rm 8 2) [.ref (ω.2.2 0), .int a0, .ref (ω.2.2 438)] ω μ (rj_D (.inl (some (.int (fL_leave μ a0)))) ω (mL_leave μ a0)) := by
  refine rj_ofH (cc := cL_leave) (nL := 4) (ret := (some .int)) (hh := [(0, 9, 12, 19), (0, 9, 15, 28)]) (own := RL) (l0 := [(0, .ref (ω.2.2 0)), (1, .int a0), (2, .ref (ω.2.2 438))]) rfl (by decide +kernel) rfl (Nat.le_of_ble_eq_true rfl) rfl ?_
  have hM := (sX11_leave (g := g) (ω := ω) hω μ a0   hq)
  refine rj_aload_n 2 dL_leave_0 rfl rfl ?_
  refine rj_iconst (v := 0) dL_leave_1 rfl (by decide) ?_
  refine rj_aload_n 0 dL_leave_2 rfl rfl ?_
  refine rj_iload_n 1 dL_leave_3 rfl rfl ?_
  rcases hf : (fX11_leave μ a0) with v | E
  · rw [hf] at hM
    refine rj_cVh (rest := [.int 0, .ref (ω.2.2 438)]) hM gL_leave_X11_leave (rj_lt hω (k := 0) rfl) (rj_sh hω ly_0) rfl rfl hVX11_leave ⟨(Nat.le_of_ble_eq_true rfl), (Nat.le_of_ble_eq_true rfl)⟩ dL_leave_4 rfl rfl rfl (Nat.le_of_ble_eq_true rfl) rfl (Nat.le_of_ble_eq_true rfl) ?_ ?_
    · intro E hE
      cases hE
    · intro v0 hv
      cases hv
      refine rj_i2l dL_leave_7 rfl ?_
      refine rj_last dL_leave_8 rfl (rj_lt hω (k := 438) rfl) (rj_sh hω ly_438) (vp_in_nI (n := 0) (rj_bl rfl) (rj_bl rfl)) ?_
      refine rj_goto dL_leave_9 rfl ?_
      refine rj_iconst (v := 0) dL_leave_18 rfl (by decide) ?_
      exact rj_iret dL_leave_19 rfl (Nat.le_of_ble_eq_true rfl) (Nat.le_of_ble_eq_true rfl) ⟨by unfold fL_leave; rw [hf]; rfl, rfl, by unfold mL_leave; rw [hf]; rfl⟩
  · rw [hf] at hM
    have hE := hx E hf
    refine rj_cVh (rest := [.int 0, .ref (ω.2.2 438)]) hM gL_leave_X11_leave (rj_lt hω (k := 0) rfl) (rj_sh hω ly_0) rfl rfl hVX11_leave ⟨(Nat.le_of_ble_eq_true rfl), (Nat.le_of_ble_eq_true rfl)⟩ dL_leave_4 rfl rfl rfl (Nat.le_of_ble_eq_true rfl) rfl (Nat.le_of_ble_eq_true rfl) ?_ ?_
    · intro E0 hE0
      cases hE0
      simp only [List.mem_cons, List.not_mem_nil, or_false] at hE
      rcases hE with rfl | rfl
      · refine ⟨12, ⟨[], (0, 9, 12, 19), [(0, 9, 15, 28)], "java/lang/IndexOutOfBoundsException", rfl, (fun z hz => by cases hz), by decide, by decide, by decide, by decide +kernel, by decide +kernel, rfl⟩, fun q9 => ?_⟩
        refine rj_astore_n (l' := [(3, .ref q9), (0, .ref (ω.2.2 0)), (1, .int a0), (2, .ref (ω.2.2 438))]) dL_leave_12 rfl (rj_bl rfl) rfl ?_
        refine rj_iconst (v := 1) dL_leave_13 rfl (by decide) ?_
        exact rj_iret dL_leave_14 rfl (Nat.le_of_ble_eq_true rfl) (Nat.le_of_ble_eq_true rfl) ⟨by unfold fL_leave; rw [hf]; decide, rfl, by unfold mL_leave; rw [hf]; rfl⟩
      · refine ⟨15, ⟨[(0, 9, 12, 19)], (0, 9, 15, 28), [], "java/lang/IllegalStateException", rfl, by
            intro z hz
            simp only [List.mem_cons, List.not_mem_nil, or_false] at hz
            subst hz
            exact ⟨by decide, "java/lang/IndexOutOfBoundsException", by decide +kernel, by decide +kernel⟩, by decide, by decide, by decide, by decide +kernel, by decide +kernel, rfl⟩, fun q9 => ?_⟩
        refine rj_astore_n (l' := [(3, .ref q9), (0, .ref (ω.2.2 0)), (1, .int a0), (2, .ref (ω.2.2 438))]) dL_leave_15 rfl (rj_bl rfl) rfl ?_
        refine rj_iconst (v := 2) dL_leave_16 rfl (by decide) ?_
        exact rj_iret dL_leave_17 rfl (Nat.le_of_ble_eq_true rfl) (Nat.le_of_ble_eq_true rfl) ⟨by unfold fL_leave; rw [hf]; decide, rfl, by unfold mL_leave; rw [hf]; rfl⟩
    · intro v hv
      cases hv
noncomputable def fL_pass (μ : rj_M) (a0 : Int32) : Int32 := Sum.elim (fun _ => 0) (rj_hc ["java/lang/IllegalArgumentException"] 1) (fX11_pass μ a0)
noncomputable def mL_pass (μ : rj_M) (a0 : Int32) : rj_M := Sum.elim (fun v => rj_pl (mX11_pass μ a0) 438 0 v.toInt64) (fun _ => (mX11_pass μ a0)) (fX11_pass μ a0)
set_option maxHeartbeats 4000000 in
set_option maxRecDepth 100000 in
theorem sL_pass {g : rj_G} {ω : rj_W} (hω : rj_ok ω) (μ : rj_M) (a0 : Int32) (hq : qX11_pass μ a0) (hx : ∀ E : String, (fX11_pass μ a0) = .inr E → E ∈ ["java/lang/IllegalArgumentException"]) : rj_Sp g yL_pass wsL_pass (rj_rm 8 1) [.ref (ω.2.2 0), .int a0, .ref (ω.2.2 438)] ω μ (rj_D (.inl (some (.int (fL_pass μ a0)))) ω (mL_pass μ a0)) := by
  refine rj_ofH (cc := cL_pass) (nL := 4) (ret := (some .int)) (hh := [(0, 9, 12, 13)]) (own := RL) (l0 := [(0, .ref (ω.2.2 0)), (1, .int a0), (2, .ref (ω.2.2 438))]) rfl (by decide +kernel) rfl (Nat.le_of_ble_eq_true rfl) rfl ?_
  have hM := (sX11_pass (g := g) (ω := ω) hω μ a0   hq)
  refine rj_aload_n 2 dL_pass_0 rfl rfl ?_
  refine rj_iconst (v := 0) dL_pass_1 rfl (by decide) ?_
  refine rj_aload_n 0 dL_pass_2 rfl rfl ?_
  refine rj_iload_n 1 dL_pass_3 rfl rfl ?_
  rcases hf : (fX11_pass μ a0) with v | E
  · rw [hf] at hM
    refine rj_cVh (rest := [.int 0, .ref (ω.2.2 438)]) hM gL_pass_X11_pass (rj_lt hω (k := 0) rfl) (rj_sh hω ly_0) rfl rfl hVX11_pass ⟨(Nat.le_of_ble_eq_true rfl), (Nat.le_of_ble_eq_true rfl)⟩ dL_pass_4 rfl rfl rfl (Nat.le_of_ble_eq_true rfl) rfl (Nat.le_of_ble_eq_true rfl) ?_ ?_
    · intro E hE
      cases hE
    · intro v0 hv
      cases hv
      refine rj_i2l dL_pass_7 rfl ?_
      refine rj_last dL_pass_8 rfl (rj_lt hω (k := 438) rfl) (rj_sh hω ly_438) (vp_in_nI (n := 0) (rj_bl rfl) (rj_bl rfl)) ?_
      refine rj_goto dL_pass_9 rfl ?_
      refine rj_iconst (v := 0) dL_pass_15 rfl (by decide) ?_
      exact rj_iret dL_pass_16 rfl (Nat.le_of_ble_eq_true rfl) (Nat.le_of_ble_eq_true rfl) ⟨by unfold fL_pass; rw [hf]; rfl, rfl, by unfold mL_pass; rw [hf]; rfl⟩
  · rw [hf] at hM
    have hE := hx E hf
    refine rj_cVh (rest := [.int 0, .ref (ω.2.2 438)]) hM gL_pass_X11_pass (rj_lt hω (k := 0) rfl) (rj_sh hω ly_0) rfl rfl hVX11_pass ⟨(Nat.le_of_ble_eq_true rfl), (Nat.le_of_ble_eq_true rfl)⟩ dL_pass_4 rfl rfl rfl (Nat.le_of_ble_eq_true rfl) rfl (Nat.le_of_ble_eq_true rfl) ?_ ?_
    · intro E0 hE0
      cases hE0
      simp only [List.mem_cons, List.not_mem_nil, or_false] at hE
      subst hE
      refine ⟨12, ⟨[], (0, 9, 12, 13), [], "java/lang/IllegalArgumentException", rfl, (fun z hz => by cases hz), by decide, by decide, by decide, by decide +kernel, by decide +kernel, rfl⟩, fun q9 => ?_⟩
      refine rj_astore_n (l' := [(3, .ref q9), (0, .ref (ω.2.2 0)), (1, .int a0), (2, .ref (ω.2.2 438))]) dL_pass_12 rfl (rj_bl rfl) rfl ?_
      refine rj_iconst (v := 1) dL_pass_13 rfl (by decide) ?_
      exact rj_iret dL_pass_14 rfl (Nat.le_of_ble_eq_true rfl) (Nat.le_of_ble_eq_true rfl) ⟨by unfold fL_pass; rw [hf]; decide, rfl, by unfold mL_pass; rw [hf]; rfl⟩
    · intro v hv
      cases hv
noncomputable def fL_setNeed (μ : rj_M) (a0 : Int32) (a1 : Int32) : Int32 := Sum.elim (fun _ => 0) (rj_hc ["java/lang/IndexOutOfBoundsException", "java/lang/IllegalArgumentException"] 1) (fX11_setNeed μ a0 a1)
noncomputable def mL_setNeed (μ : rj_M) (a0 : Int32) (a1 : Int32) : rj_M := Sum.elim (fun v => rj_pl (mX11_setNeed μ a0 a1) 438 0 v.toInt64) (fun _ => (mX11_setNeed μ a0 a1)) (fX11_setNeed μ a0 a1)
set_option maxHeartbeats 4000000 in
set_option maxRecDepth 100000 in
theorem sL_setNeed {g : rj_G} {ω : rj_W} (hω : rj_ok ω) (μ : rj_M) (a0 : Int32) (a1 : Int32) (hq : qX11_setNeed μ a0 a1) (hx : ∀ E : String, (fX11_setNeed μ a0 a1) = .inr E → E ∈ ["java/lang/IndexOutOfBoundsException", "java/lang/IllegalArgumentException"]) : rj_Sp g yL_setNeed wsL_setNeed (rj_rm 8 2) [.ref (ω.2.2 0), .int a0, .int a1, .ref (ω.2.2 438)] ω μ (rj_D (.inl (some (.int (fL_setNeed μ a0 a1)))) ω (mL_setNeed μ a0 a1)) := by
  refine rj_ofH (cc := cL_setNeed) (nL := 5) (ret := (some .int)) (hh := [(0, 10, 13, 19), (0, 10, 17, 13)]) (own := RL) (l0 := [(0, .ref (ω.2.2 0)), (1, .int a0), (2, .int a1), (3, .ref (ω.2.2 438))]) rfl (by decide +kernel) rfl (Nat.le_of_ble_eq_true rfl) rfl ?_
  have hM := (sX11_setNeed (g := g) (ω := ω) hω μ a0 a1   hq)
  refine rj_aload_n 3 dL_setNeed_0 rfl rfl ?_
  refine rj_iconst (v := 0) dL_setNeed_1 rfl (by decide) ?_
  refine rj_aload_n 0 dL_setNeed_2 rfl rfl ?_
  refine rj_iload_n 1 dL_setNeed_3 rfl rfl ?_
  refine rj_iload_n 2 dL_setNeed_4 rfl rfl ?_
  rcases hf : (fX11_setNeed μ a0 a1) with v | E
  · rw [hf] at hM
    refine rj_cVh (rest := [.int 0, .ref (ω.2.2 438)]) hM gL_setNeed_X11_setNeed (rj_lt hω (k := 0) rfl) (rj_sh hω ly_0) rfl rfl hVX11_setNeed ⟨(Nat.le_of_ble_eq_true rfl), (Nat.le_of_ble_eq_true rfl)⟩ dL_setNeed_5 rfl rfl rfl (Nat.le_of_ble_eq_true rfl) rfl (Nat.le_of_ble_eq_true rfl) ?_ ?_
    · intro E hE
      cases hE
    · intro v0 hv
      cases hv
      refine rj_i2l dL_setNeed_8 rfl ?_
      refine rj_last dL_setNeed_9 rfl (rj_lt hω (k := 438) rfl) (rj_sh hω ly_438) (vp_in_nI (n := 0) (rj_bl rfl) (rj_bl rfl)) ?_
      refine rj_goto dL_setNeed_10 rfl ?_
      refine rj_iconst (v := 0) dL_setNeed_21 rfl (by decide) ?_
      exact rj_iret dL_setNeed_22 rfl (Nat.le_of_ble_eq_true rfl) (Nat.le_of_ble_eq_true rfl) ⟨by unfold fL_setNeed; rw [hf]; rfl, rfl, by unfold mL_setNeed; rw [hf]; rfl⟩
  · rw [hf] at hM
    have hE := hx E hf
    refine rj_cVh (rest := [.int 0, .ref (ω.2.2 438)]) hM gL_setNeed_X11_setNeed (rj_lt hω (k := 0) rfl) (rj_sh hω ly_0) rfl rfl hVX11_setNeed ⟨(Nat.le_of_ble_eq_true rfl), (Nat.le_of_ble_eq_true rfl)⟩ dL_setNeed_5 rfl rfl rfl (Nat.le_of_ble_eq_true rfl) rfl (Nat.le_of_ble_eq_true rfl) ?_ ?_
    · intro E0 hE0
      cases hE0
      simp only [List.mem_cons, List.not_mem_nil, or_false] at hE
      rcases hE with rfl | rfl
      · refine ⟨13, ⟨[], (0, 10, 13, 19), [(0, 10, 17, 13)], "java/lang/IndexOutOfBoundsException", rfl, (fun z hz => by cases hz), by decide, by decide, by decide, by decide +kernel, by decide +kernel, rfl⟩, fun q9 => ?_⟩
        refine rj_astore (l' := [(4, .ref q9), (0, .ref (ω.2.2 0)), (1, .int a0), (2, .int a1), (3, .ref (ω.2.2 438))]) dL_setNeed_13 rfl (rj_bl rfl) rfl ?_
        refine rj_iconst (v := 1) dL_setNeed_15 rfl (by decide) ?_
        exact rj_iret dL_setNeed_16 rfl (Nat.le_of_ble_eq_true rfl) (Nat.le_of_ble_eq_true rfl) ⟨by unfold fL_setNeed; rw [hf]; decide, rfl, by unfold mL_setNeed; rw [hf]; rfl⟩
      · refine ⟨17, ⟨[(0, 10, 13, 19)], (0, 10, 17, 13), [], "java/lang/IllegalArgumentException", rfl, by
            intro z hz
            simp only [List.mem_cons, List.not_mem_nil, or_false] at hz
            subst hz
            exact ⟨by decide, "java/lang/IndexOutOfBoundsException", by decide +kernel, by decide +kernel⟩, by decide, by decide, by decide, by decide +kernel, by decide +kernel, rfl⟩, fun q9 => ?_⟩
        refine rj_astore (l' := [(4, .ref q9), (0, .ref (ω.2.2 0)), (1, .int a0), (2, .int a1), (3, .ref (ω.2.2 438))]) dL_setNeed_17 rfl (rj_bl rfl) rfl ?_
        refine rj_iconst (v := 2) dL_setNeed_19 rfl (by decide) ?_
        exact rj_iret dL_setNeed_20 rfl (Nat.le_of_ble_eq_true rfl) (Nat.le_of_ble_eq_true rfl) ⟨by unfold fL_setNeed; rw [hf]; decide, rfl, by unfold mL_setNeed; rw [hf]; rfl⟩
    · intro v hv
      cases hv
noncomputable def fL_setShift (μ : rj_M) (a0 : Int32) : Int32 := Sum.elim (fun _ => 0) (rj_hc ["java/lang/IllegalArgumentException"] 1) (fX11_setShift μ a0)
noncomputable def mL_setShift (μ : rj_M) (a0 : Int32) : rj_M := Sum.elim (fun v => rj_pl (mX11_setShift μ a0) 438 0 v.toInt64) (fun _ => (mX11_setShift μ a0)) (fX11_setShift μ a0)
set_option maxHeartbeats 4000000 in
set_option maxRecDepth 100000 in
theorem sL_setShift {g : rj_G} {ω : rj_W} (hω : rj_ok ω) (μ : rj_M) (a0 : Int32) (hq : qX11_setShift μ a0) (hx : ∀ E : String, (fX11_setShift μ a0) = .inr E → E ∈ ["java/lang/IllegalArgumentException"]) : rj_Sp g yL_setShift wsL_setShift (rj_rm 8 1) [.ref (ω.2.2 0), .int a0, .ref (ω.2.2 438)] ω μ (rj_D (.inl (some (.int (fL_setShift μ a0)))) ω (mL_setShift μ a0)) := by
  refine rj_ofH (cc := cL_setShift) (nL := 4) (ret := (some .int)) (hh := [(0, 9, 12, 13)]) (own := RL) (l0 := [(0, .ref (ω.2.2 0)), (1, .int a0), (2, .ref (ω.2.2 438))]) rfl (by decide +kernel) rfl (Nat.le_of_ble_eq_true rfl) rfl ?_
  have hM := (sX11_setShift (g := g) (ω := ω) hω μ a0   hq)
  refine rj_aload_n 2 dL_setShift_0 rfl rfl ?_
  refine rj_iconst (v := 0) dL_setShift_1 rfl (by decide) ?_
  refine rj_aload_n 0 dL_setShift_2 rfl rfl ?_
  refine rj_iload_n 1 dL_setShift_3 rfl rfl ?_
  rcases hf : (fX11_setShift μ a0) with v | E
  · rw [hf] at hM
    refine rj_cVh (rest := [.int 0, .ref (ω.2.2 438)]) hM gL_setShift_X11_setShift (rj_lt hω (k := 0) rfl) (rj_sh hω ly_0) rfl rfl hVX11_setShift ⟨(Nat.le_of_ble_eq_true rfl), (Nat.le_of_ble_eq_true rfl)⟩ dL_setShift_4 rfl rfl rfl (Nat.le_of_ble_eq_true rfl) rfl (Nat.le_of_ble_eq_true rfl) ?_ ?_
    · intro E hE
      cases hE
    · intro v0 hv
      cases hv
      refine rj_i2l dL_setShift_7 rfl ?_
      refine rj_last dL_setShift_8 rfl (rj_lt hω (k := 438) rfl) (rj_sh hω ly_438) (vp_in_nI (n := 0) (rj_bl rfl) (rj_bl rfl)) ?_
      refine rj_goto dL_setShift_9 rfl ?_
      refine rj_iconst (v := 0) dL_setShift_15 rfl (by decide) ?_
      exact rj_iret dL_setShift_16 rfl (Nat.le_of_ble_eq_true rfl) (Nat.le_of_ble_eq_true rfl) ⟨by unfold fL_setShift; rw [hf]; rfl, rfl, by unfold mL_setShift; rw [hf]; rfl⟩
  · rw [hf] at hM
    have hE := hx E hf
    refine rj_cVh (rest := [.int 0, .ref (ω.2.2 438)]) hM gL_setShift_X11_setShift (rj_lt hω (k := 0) rfl) (rj_sh hω ly_0) rfl rfl hVX11_setShift ⟨(Nat.le_of_ble_eq_true rfl), (Nat.le_of_ble_eq_true rfl)⟩ dL_setShift_4 rfl rfl rfl (Nat.le_of_ble_eq_true rfl) rfl (Nat.le_of_ble_eq_true rfl) ?_ ?_
    · intro E0 hE0
      cases hE0
      simp only [List.mem_cons, List.not_mem_nil, or_false] at hE
      subst hE
      refine ⟨12, ⟨[], (0, 9, 12, 13), [], "java/lang/IllegalArgumentException", rfl, (fun z hz => by cases hz), by decide, by decide, by decide, by decide +kernel, by decide +kernel, rfl⟩, fun q9 => ?_⟩
      refine rj_astore_n (l' := [(3, .ref q9), (0, .ref (ω.2.2 0)), (1, .int a0), (2, .ref (ω.2.2 438))]) dL_setShift_12 rfl (rj_bl rfl) rfl ?_
      refine rj_iconst (v := 1) dL_setShift_13 rfl (by decide) ?_
      exact rj_iret dL_setShift_14 rfl (Nat.le_of_ble_eq_true rfl) (Nat.le_of_ble_eq_true rfl) ⟨by unfold fL_setShift; rw [hf]; decide, rfl, by unfold mL_setShift; rw [hf]; rfl⟩
    · intro v hv
      cases hv
noncomputable def fL_setLoad (μ : rj_M) (a0 : Int32) (a1 : Int32) (a2 : Int32) : Int32 := Sum.elim (fun _ => 0) (rj_hc ["java/lang/IndexOutOfBoundsException", "java/lang/IllegalArgumentException"] 1) (fX11_setLoad μ a0 a1 a2)
noncomputable def mL_setLoad (μ : rj_M) (a0 : Int32) (a1 : Int32) (a2 : Int32) : rj_M := Sum.elim (fun v => rj_pl (mX11_setLoad μ a0 a1 a2) 438 0 v.toInt64) (fun _ => (mX11_setLoad μ a0 a1 a2)) (fX11_setLoad μ a0 a1 a2)
set_option maxHeartbeats 4000000 in
set_option maxRecDepth 100000 in
theorem sL_setLoad {g : rj_G} {ω : rj_W} (hω : rj_ok ω) (μ : rj_M) (a0 : Int32) (a1 : Int32) (a2 : Int32) (hq : qX11_setLoad μ a0 a1 a2) (hx : ∀ E : String, (fX11_setLoad μ a0 a1 a2) = .inr E → E ∈ ["java/lang/IndexOutOfBoundsException", "java/lang/IllegalArgumentException"]) : rj_Sp g yL_setLoad wsL_setLoad (rj_rm 8 4) [.ref (ω.2.2 0), .int a0, .int a1, .int a2, .ref (ω.2.2 438)] ω μ (rj_D (.inl (some (.int (fL_setLoad μ a0 a1 a2)))) ω (mL_setLoad μ a0 a1 a2)) := by
  refine rj_ofH (cc := cL_setLoad) (nL := 6) (ret := (some .int)) (hh := [(0, 12, 15, 19), (0, 12, 19, 13)]) (own := RL) (l0 := [(0, .ref (ω.2.2 0)), (1, .int a0), (2, .int a1), (3, .int a2), (4, .ref (ω.2.2 438))]) rfl (by decide +kernel) rfl (Nat.le_of_ble_eq_true rfl) rfl ?_
  have hM := (sX11_setLoad (g := g) (ω := ω) hω μ a0 a1 a2   hq)
  refine rj_aload 4 dL_setLoad_0 rfl rfl ?_
  refine rj_iconst (v := 0) dL_setLoad_2 rfl (by decide) ?_
  refine rj_aload_n 0 dL_setLoad_3 rfl rfl ?_
  refine rj_iload_n 1 dL_setLoad_4 rfl rfl ?_
  refine rj_iload_n 2 dL_setLoad_5 rfl rfl ?_
  refine rj_iload_n 3 dL_setLoad_6 rfl rfl ?_
  rcases hf : (fX11_setLoad μ a0 a1 a2) with v | E
  · rw [hf] at hM
    refine rj_cVh (rest := [.int 0, .ref (ω.2.2 438)]) hM gL_setLoad_X11_setLoad (rj_lt hω (k := 0) rfl) (rj_sh hω ly_0) rfl rfl hVX11_setLoad ⟨(Nat.le_of_ble_eq_true rfl), (Nat.le_of_ble_eq_true rfl)⟩ dL_setLoad_7 rfl rfl rfl (Nat.le_of_ble_eq_true rfl) rfl (Nat.le_of_ble_eq_true rfl) ?_ ?_
    · intro E hE
      cases hE
    · intro v0 hv
      cases hv
      refine rj_i2l dL_setLoad_10 rfl ?_
      refine rj_last dL_setLoad_11 rfl (rj_lt hω (k := 438) rfl) (rj_sh hω ly_438) (vp_in_nI (n := 0) (rj_bl rfl) (rj_bl rfl)) ?_
      refine rj_goto dL_setLoad_12 rfl ?_
      refine rj_iconst (v := 0) dL_setLoad_23 rfl (by decide) ?_
      exact rj_iret dL_setLoad_24 rfl (Nat.le_of_ble_eq_true rfl) (Nat.le_of_ble_eq_true rfl) ⟨by unfold fL_setLoad; rw [hf]; rfl, rfl, by unfold mL_setLoad; rw [hf]; rfl⟩
  · rw [hf] at hM
    have hE := hx E hf
    refine rj_cVh (rest := [.int 0, .ref (ω.2.2 438)]) hM gL_setLoad_X11_setLoad (rj_lt hω (k := 0) rfl) (rj_sh hω ly_0) rfl rfl hVX11_setLoad ⟨(Nat.le_of_ble_eq_true rfl), (Nat.le_of_ble_eq_true rfl)⟩ dL_setLoad_7 rfl rfl rfl (Nat.le_of_ble_eq_true rfl) rfl (Nat.le_of_ble_eq_true rfl) ?_ ?_
    · intro E0 hE0
      cases hE0
      simp only [List.mem_cons, List.not_mem_nil, or_false] at hE
      rcases hE with rfl | rfl
      · refine ⟨15, ⟨[], (0, 12, 15, 19), [(0, 12, 19, 13)], "java/lang/IndexOutOfBoundsException", rfl, (fun z hz => by cases hz), by decide, by decide, by decide, by decide +kernel, by decide +kernel, rfl⟩, fun q9 => ?_⟩
        refine rj_astore (l' := [(5, .ref q9), (0, .ref (ω.2.2 0)), (1, .int a0), (2, .int a1), (3, .int a2), (4, .ref (ω.2.2 438))]) dL_setLoad_15 rfl (rj_bl rfl) rfl ?_
        refine rj_iconst (v := 1) dL_setLoad_17 rfl (by decide) ?_
        exact rj_iret dL_setLoad_18 rfl (Nat.le_of_ble_eq_true rfl) (Nat.le_of_ble_eq_true rfl) ⟨by unfold fL_setLoad; rw [hf]; decide, rfl, by unfold mL_setLoad; rw [hf]; rfl⟩
      · refine ⟨19, ⟨[(0, 12, 15, 19)], (0, 12, 19, 13), [], "java/lang/IllegalArgumentException", rfl, by
            intro z hz
            simp only [List.mem_cons, List.not_mem_nil, or_false] at hz
            subst hz
            exact ⟨by decide, "java/lang/IndexOutOfBoundsException", by decide +kernel, by decide +kernel⟩, by decide, by decide, by decide, by decide +kernel, by decide +kernel, rfl⟩, fun q9 => ?_⟩
        refine rj_astore (l' := [(5, .ref q9), (0, .ref (ω.2.2 0)), (1, .int a0), (2, .int a1), (3, .int a2), (4, .ref (ω.2.2 438))]) dL_setLoad_19 rfl (rj_bl rfl) rfl ?_
        refine rj_iconst (v := 2) dL_setLoad_21 rfl (by decide) ?_
        exact rj_iret dL_setLoad_22 rfl (Nat.le_of_ble_eq_true rfl) (Nat.le_of_ble_eq_true rfl) ⟨by unfold fL_setLoad; rw [hf]; decide, rfl, by unfold mL_setLoad; rw [hf]; rfl⟩
    · intro v hv
      cases hv
noncomputable def fL_setGenerator (μ : rj_M) (a0 : Int32) (a1 : Int32) (a2 : Int32) (a3 : Int32) : Int32 := Sum.elim (fun _ => 0) (rj_hc ["java/lang/IndexOutOfBoundsException", "java/lang/IllegalArgumentException"] 1) (fX11_setGenerator μ a0 a1 a2 a3)
noncomputable def mL_setGenerator (μ : rj_M) (a0 : Int32) (a1 : Int32) (a2 : Int32) (a3 : Int32) : rj_M := Sum.elim (fun v => rj_pl (mX11_setGenerator μ a0 a1 a2 a3) 438 0 v.toInt64) (fun _ => (mX11_setGenerator μ a0 a1 a2 a3)) (fX11_setGenerator μ a0 a1 a2 a3)
set_option maxHeartbeats 4000000 in
set_option maxRecDepth 100000 in
theorem sL_setGenerator {g : rj_G} {ω : rj_W} (hω : rj_ok ω) (μ : rj_M) (a0 : Int32) (a1 : Int32) (a2 : Int32) (a3 : Int32) (hq : qX11_setGenerator μ a0 a1 a2 a3) (hx : ∀ E : String, (fX11_setGenerator μ a0 a1 a2 a3) = .inr E → E ∈ ["java/lang/IndexOutOfBoundsException", "java/lang/IllegalArgumentException"]) : rj_Sp g yL_setGenerator wsL_setGenerator (rj_rm 8 4) [.ref (ω.2.2 0), .int a0, .int a1, .int a2, .int a3, .ref (ω.2.2 438)] ω μ (rj_D (.inl (some (.int (fL_setGenerator μ a0 a1 a2 a3)))) ω (mL_setGenerator μ a0 a1 a2 a3)) := by
  refine rj_ofH (cc := cL_setGenerator) (nL := 7) (ret := (some .int)) (hh := [(0, 14, 17, 19), (0, 14, 21, 13)]) (own := RL) (l0 := [(0, .ref (ω.2.2 0)), (1, .int a0), (2, .int a1), (3, .int a2), (4, .int a3), (5, .ref (ω.2.2 438))]) rfl (by decide +kernel) rfl (Nat.le_of_ble_eq_true rfl) rfl ?_
  have hM := (sX11_setGenerator (g := g) (ω := ω) hω μ a0 a1 a2 a3   hq)
  refine rj_aload 5 dL_setGenerator_0 rfl rfl ?_
  refine rj_iconst (v := 0) dL_setGenerator_2 rfl (by decide) ?_
  refine rj_aload_n 0 dL_setGenerator_3 rfl rfl ?_
  refine rj_iload_n 1 dL_setGenerator_4 rfl rfl ?_
  refine rj_iload_n 2 dL_setGenerator_5 rfl rfl ?_
  refine rj_iload_n 3 dL_setGenerator_6 rfl rfl ?_
  refine rj_iload 4 dL_setGenerator_7 rfl rfl ?_
  rcases hf : (fX11_setGenerator μ a0 a1 a2 a3) with v | E
  · rw [hf] at hM
    refine rj_cVh (rest := [.int 0, .ref (ω.2.2 438)]) hM gL_setGenerator_X11_setGenerator (rj_lt hω (k := 0) rfl) (rj_sh hω ly_0) rfl rfl hVX11_setGenerator ⟨(Nat.le_of_ble_eq_true rfl), (Nat.le_of_ble_eq_true rfl)⟩ dL_setGenerator_9 rfl rfl rfl (Nat.le_of_ble_eq_true rfl) rfl (Nat.le_of_ble_eq_true rfl) ?_ ?_
    · intro E hE
      cases hE
    · intro v0 hv
      cases hv
      refine rj_i2l dL_setGenerator_12 rfl ?_
      refine rj_last dL_setGenerator_13 rfl (rj_lt hω (k := 438) rfl) (rj_sh hω ly_438) (vp_in_nI (n := 0) (rj_bl rfl) (rj_bl rfl)) ?_
      refine rj_goto dL_setGenerator_14 rfl ?_
      refine rj_iconst (v := 0) dL_setGenerator_25 rfl (by decide) ?_
      exact rj_iret dL_setGenerator_26 rfl (Nat.le_of_ble_eq_true rfl) (Nat.le_of_ble_eq_true rfl) ⟨by unfold fL_setGenerator; rw [hf]; rfl, rfl, by unfold mL_setGenerator; rw [hf]; rfl⟩
  · rw [hf] at hM
    have hE := hx E hf
    refine rj_cVh (rest := [.int 0, .ref (ω.2.2 438)]) hM gL_setGenerator_X11_setGenerator (rj_lt hω (k := 0) rfl) (rj_sh hω ly_0) rfl rfl hVX11_setGenerator ⟨(Nat.le_of_ble_eq_true rfl), (Nat.le_of_ble_eq_true rfl)⟩ dL_setGenerator_9 rfl rfl rfl (Nat.le_of_ble_eq_true rfl) rfl (Nat.le_of_ble_eq_true rfl) ?_ ?_
    · intro E0 hE0
      cases hE0
      simp only [List.mem_cons, List.not_mem_nil, or_false] at hE
      rcases hE with rfl | rfl
      · refine ⟨17, ⟨[], (0, 14, 17, 19), [(0, 14, 21, 13)], "java/lang/IndexOutOfBoundsException", rfl, (fun z hz => by cases hz), by decide, by decide, by decide, by decide +kernel, by decide +kernel, rfl⟩, fun q9 => ?_⟩
        refine rj_astore (l' := [(6, .ref q9), (0, .ref (ω.2.2 0)), (1, .int a0), (2, .int a1), (3, .int a2), (4, .int a3), (5, .ref (ω.2.2 438))]) dL_setGenerator_17 rfl (rj_bl rfl) rfl ?_
        refine rj_iconst (v := 1) dL_setGenerator_19 rfl (by decide) ?_
        exact rj_iret dL_setGenerator_20 rfl (Nat.le_of_ble_eq_true rfl) (Nat.le_of_ble_eq_true rfl) ⟨by unfold fL_setGenerator; rw [hf]; decide, rfl, by unfold mL_setGenerator; rw [hf]; rfl⟩
      · refine ⟨21, ⟨[(0, 14, 17, 19)], (0, 14, 21, 13), [], "java/lang/IllegalArgumentException", rfl, by
            intro z hz
            simp only [List.mem_cons, List.not_mem_nil, or_false] at hz
            subst hz
            exact ⟨by decide, "java/lang/IndexOutOfBoundsException", by decide +kernel, by decide +kernel⟩, by decide, by decide, by decide, by decide +kernel, by decide +kernel, rfl⟩, fun q9 => ?_⟩
        refine rj_astore (l' := [(6, .ref q9), (0, .ref (ω.2.2 0)), (1, .int a0), (2, .int a1), (3, .int a2), (4, .int a3), (5, .ref (ω.2.2 438))]) dL_setGenerator_21 rfl (rj_bl rfl) rfl ?_
        refine rj_iconst (v := 2) dL_setGenerator_23 rfl (by decide) ?_
        exact rj_iret dL_setGenerator_24 rfl (Nat.le_of_ble_eq_true rfl) (Nat.le_of_ble_eq_true rfl) ⟨by unfold fL_setGenerator; rw [hf]; decide, rfl, by unfold mL_setGenerator; rw [hf]; rfl⟩
    · intro v hv
      cases hv
noncomputable def fL_moveAll (μ : rj_M)  : Int32 := Sum.elim (fun _ => 0) (rj_hc ["java/lang/IllegalStateException"] 1) (fX11_moveAll μ)
noncomputable def mL_moveAll (μ : rj_M)  : rj_M := Sum.elim (fun v => rj_pl (mX11_moveAll μ) 438 0 v.toInt64) (fun _ => (mX11_moveAll μ)) (fX11_moveAll μ)
set_option maxHeartbeats 4000000 in
set_option maxRecDepth 100000 in
theorem sL_moveAll {g : rj_G} {ω : rj_W} (hω : rj_ok ω) (μ : rj_M)  (hq : qX11_moveAll μ) (hx : ∀ E : String, (fX11_moveAll μ) = .inr E → E ∈ ["java/lang/IllegalStateException"]) : rj_Sp g yL_moveAll wsL_moveAll (rj_rm 7 1) [.ref (ω.2.2 0), .ref (ω.2.2 438)] ω μ (rj_D (.inl (some (.int (fL_moveAll μ)))) ω (mL_moveAll μ)) := by
  refine rj_ofH (cc := cL_moveAll) (nL := 3) (ret := (some .int)) (hh := [(0, 8, 11, 28)]) (own := RL) (l0 := [(0, .ref (ω.2.2 0)), (1, .ref (ω.2.2 438))]) rfl (by decide +kernel) rfl (Nat.le_of_ble_eq_true rfl) rfl ?_
  have hM := (sX11_moveAll (g := g) (ω := ω) hω μ   hq)
  refine rj_aload_n 1 dL_moveAll_0 rfl rfl ?_
  refine rj_iconst (v := 0) dL_moveAll_1 rfl (by decide) ?_
  refine rj_aload_n 0 dL_moveAll_2 rfl rfl ?_
  rcases hf : (fX11_moveAll μ) with v | E
  · rw [hf] at hM
    refine rj_cVh (rest := [.int 0, .ref (ω.2.2 438)]) hM gL_moveAll_X11_moveAll (rj_lt hω (k := 0) rfl) (rj_sh hω ly_0) rfl rfl hVX11_moveAll ⟨(Nat.le_of_ble_eq_true rfl), (Nat.le_of_ble_eq_true rfl)⟩ dL_moveAll_3 rfl rfl rfl (Nat.le_of_ble_eq_true rfl) rfl (Nat.le_of_ble_eq_true rfl) ?_ ?_
    · intro E hE
      cases hE
    · intro v0 hv
      cases hv
      refine rj_i2l dL_moveAll_6 rfl ?_
      refine rj_last dL_moveAll_7 rfl (rj_lt hω (k := 438) rfl) (rj_sh hω ly_438) (vp_in_nI (n := 0) (rj_bl rfl) (rj_bl rfl)) ?_
      refine rj_goto dL_moveAll_8 rfl ?_
      refine rj_iconst (v := 0) dL_moveAll_14 rfl (by decide) ?_
      exact rj_iret dL_moveAll_15 rfl (Nat.le_of_ble_eq_true rfl) (Nat.le_of_ble_eq_true rfl) ⟨by unfold fL_moveAll; rw [hf]; rfl, rfl, by unfold mL_moveAll; rw [hf]; rfl⟩
  · rw [hf] at hM
    have hE := hx E hf
    refine rj_cVh (rest := [.int 0, .ref (ω.2.2 438)]) hM gL_moveAll_X11_moveAll (rj_lt hω (k := 0) rfl) (rj_sh hω ly_0) rfl rfl hVX11_moveAll ⟨(Nat.le_of_ble_eq_true rfl), (Nat.le_of_ble_eq_true rfl)⟩ dL_moveAll_3 rfl rfl rfl (Nat.le_of_ble_eq_true rfl) rfl (Nat.le_of_ble_eq_true rfl) ?_ ?_
    · intro E0 hE0
      cases hE0
      simp only [List.mem_cons, List.not_mem_nil, or_false] at hE
      subst hE
      refine ⟨11, ⟨[], (0, 8, 11, 28), [], "java/lang/IllegalStateException", rfl, (fun z hz => by cases hz), by decide, by decide, by decide, by decide +kernel, by decide +kernel, rfl⟩, fun q9 => ?_⟩
      refine rj_astore_n (l' := [(2, .ref q9), (0, .ref (ω.2.2 0)), (1, .ref (ω.2.2 438))]) dL_moveAll_11 rfl (rj_bl rfl) rfl ?_
      refine rj_iconst (v := 1) dL_moveAll_12 rfl (by decide) ?_
      exact rj_iret dL_moveAll_13 rfl (Nat.le_of_ble_eq_true rfl) (Nat.le_of_ble_eq_true rfl) ⟨by unfold fL_moveAll; rw [hf]; decide, rfl, by unfold mL_moveAll; rw [hf]; rfl⟩
    · intro v hv
      cases hv
noncomputable def fL_setPrice (μ : rj_M) (a0 : Int32) (a1 : Int32) : Int32 := Sum.elim (fun _ => 0) (rj_hc ["java/lang/IndexOutOfBoundsException", "java/lang/IllegalArgumentException"] 1) (fX11_setPrice μ a0 a1)
noncomputable def mL_setPrice (μ : rj_M) (a0 : Int32) (a1 : Int32) : rj_M := Sum.elim (fun v => rj_pl (mX11_setPrice μ a0 a1) 438 0 v.toInt64) (fun _ => (mX11_setPrice μ a0 a1)) (fX11_setPrice μ a0 a1)
set_option maxHeartbeats 4000000 in
set_option maxRecDepth 100000 in
theorem sL_setPrice {g : rj_G} {ω : rj_W} (hω : rj_ok ω) (μ : rj_M) (a0 : Int32) (a1 : Int32) (hq : qX11_setPrice μ a0 a1) (hx : ∀ E : String, (fX11_setPrice μ a0 a1) = .inr E → E ∈ ["java/lang/IndexOutOfBoundsException", "java/lang/IllegalArgumentException"]) : rj_Sp g yL_setPrice wsL_setPrice (rj_rm 8 2) [.ref (ω.2.2 0), .int a0, .int a1, .ref (ω.2.2 438)] ω μ (rj_D (.inl (some (.int (fL_setPrice μ a0 a1)))) ω (mL_setPrice μ a0 a1)) := by
  refine rj_ofH (cc := cL_setPrice) (nL := 5) (ret := (some .int)) (hh := [(0, 10, 13, 19), (0, 10, 17, 13)]) (own := RL) (l0 := [(0, .ref (ω.2.2 0)), (1, .int a0), (2, .int a1), (3, .ref (ω.2.2 438))]) rfl (by decide +kernel) rfl (Nat.le_of_ble_eq_true rfl) rfl ?_
  have hM := (sX11_setPrice (g := g) (ω := ω) hω μ a0 a1   hq)
  refine rj_aload_n 3 dL_setPrice_0 rfl rfl ?_
  refine rj_iconst (v := 0) dL_setPrice_1 rfl (by decide) ?_
  refine rj_aload_n 0 dL_setPrice_2 rfl rfl ?_
  refine rj_iload_n 1 dL_setPrice_3 rfl rfl ?_
  refine rj_iload_n 2 dL_setPrice_4 rfl rfl ?_
  rcases hf : (fX11_setPrice μ a0 a1) with v | E
  · rw [hf] at hM
    refine rj_cVh (rest := [.int 0, .ref (ω.2.2 438)]) hM gL_setPrice_X11_setPrice (rj_lt hω (k := 0) rfl) (rj_sh hω ly_0) rfl rfl hVX11_setPrice ⟨(Nat.le_of_ble_eq_true rfl), (Nat.le_of_ble_eq_true rfl)⟩ dL_setPrice_5 rfl rfl rfl (Nat.le_of_ble_eq_true rfl) rfl (Nat.le_of_ble_eq_true rfl) ?_ ?_
    · intro E hE
      cases hE
    · intro v0 hv
      cases hv
      refine rj_i2l dL_setPrice_8 rfl ?_
      refine rj_last dL_setPrice_9 rfl (rj_lt hω (k := 438) rfl) (rj_sh hω ly_438) (vp_in_nI (n := 0) (rj_bl rfl) (rj_bl rfl)) ?_
      refine rj_goto dL_setPrice_10 rfl ?_
      refine rj_iconst (v := 0) dL_setPrice_21 rfl (by decide) ?_
      exact rj_iret dL_setPrice_22 rfl (Nat.le_of_ble_eq_true rfl) (Nat.le_of_ble_eq_true rfl) ⟨by unfold fL_setPrice; rw [hf]; rfl, rfl, by unfold mL_setPrice; rw [hf]; rfl⟩
  · rw [hf] at hM
    have hE := hx E hf
    refine rj_cVh (rest := [.int 0, .ref (ω.2.2 438)]) hM gL_setPrice_X11_setPrice (rj_lt hω (k := 0) rfl) (rj_sh hω ly_0) rfl rfl hVX11_setPrice ⟨(Nat.le_of_ble_eq_true rfl), (Nat.le_of_ble_eq_true rfl)⟩ dL_setPrice_5 rfl rfl rfl (Nat.le_of_ble_eq_true rfl) rfl (Nat.le_of_ble_eq_true rfl) ?_ ?_
    · intro E0 hE0
      cases hE0
      simp only [List.mem_cons, List.not_mem_nil, or_false] at hE
      rcases hE with rfl | rfl
      · refine ⟨13, ⟨[], (0, 10, 13, 19), [(0, 10, 17, 13)], "java/lang/IndexOutOfBoundsException", rfl, (fun z hz => by cases hz), by decide, by decide, by decide, by decide +kernel, by decide +kernel, rfl⟩, fun q9 => ?_⟩
        refine rj_astore (l' := [(4, .ref q9), (0, .ref (ω.2.2 0)), (1, .int a0), (2, .int a1), (3, .ref (ω.2.2 438))]) dL_setPrice_13 rfl (rj_bl rfl) rfl ?_
        refine rj_iconst (v := 1) dL_setPrice_15 rfl (by decide) ?_
        exact rj_iret dL_setPrice_16 rfl (Nat.le_of_ble_eq_true rfl) (Nat.le_of_ble_eq_true rfl) ⟨by unfold fL_setPrice; rw [hf]; decide, rfl, by unfold mL_setPrice; rw [hf]; rfl⟩
      · refine ⟨17, ⟨[(0, 10, 13, 19)], (0, 10, 17, 13), [], "java/lang/IllegalArgumentException", rfl, by
            intro z hz
            simp only [List.mem_cons, List.not_mem_nil, or_false] at hz
            subst hz
            exact ⟨by decide, "java/lang/IndexOutOfBoundsException", by decide +kernel, by decide +kernel⟩, by decide, by decide, by decide, by decide +kernel, by decide +kernel, rfl⟩, fun q9 => ?_⟩
        refine rj_astore (l' := [(4, .ref q9), (0, .ref (ω.2.2 0)), (1, .int a0), (2, .int a1), (3, .ref (ω.2.2 438))]) dL_setPrice_17 rfl (rj_bl rfl) rfl ?_
        refine rj_iconst (v := 2) dL_setPrice_19 rfl (by decide) ?_
        exact rj_iret dL_setPrice_20 rfl (Nat.le_of_ble_eq_true rfl) (Nat.le_of_ble_eq_true rfl) ⟨by unfold fL_setPrice; rw [hf]; decide, rfl, by unfold mL_setPrice; rw [hf]; rfl⟩
    · intro v hv
      cases hv
noncomputable def fL_ticket (μ : rj_M) (a0 : Int32) (a1 : Int32) (a2 : Int32) : Int32 := Sum.elim (fun _ => 0) (rj_hc ["java/lang/IndexOutOfBoundsException", "java/lang/IllegalArgumentException", "java/lang/IllegalStateException"] 1) (fX11_ticket μ a0 a1 a2)
noncomputable def mL_ticket (μ : rj_M) (a0 : Int32) (a1 : Int32) (a2 : Int32) : rj_M := Sum.elim (fun v => rj_pl (mX11_ticket μ a0 a1 a2) 438 0 v.toInt64) (fun _ => (mX11_ticket μ a0 a1 a2)) (fX11_ticket μ a0 a1 a2)
set_option maxHeartbeats 4000000 in
set_option maxRecDepth 100000 in
theorem sL_ticket {g : rj_G} {ω : rj_W} (hω : rj_ok ω) (μ : rj_M) (a0 : Int32) (a1 : Int32) (a2 : Int32) (hq : qX11_ticket μ a0 a1 a2) (hx : ∀ E : String, (fX11_ticket μ a0 a1 a2) = .inr E → E ∈ ["java/lang/IndexOutOfBoundsException", "java/lang/IllegalArgumentException", "java/lang/IllegalStateException"]) : rj_Sp g yL_ticket wsL_ticket (rj_rm 8 4) [.ref (ω.2.2 0), .int a0, .int a1, .int a2, .ref (ω.2.2 438)] ω μ (rj_D (.inl (some (.int (fL_ticket μ a0 a1 a2)))) ω (mL_ticket μ a0 a1 a2)) := by
  refine rj_ofH (cc := cL_ticket) (nL := 6) (ret := (some .int)) (hh := [(0, 12, 15, 19), (0, 12, 19, 13), (0, 12, 23, 28)]) (own := RL) (l0 := [(0, .ref (ω.2.2 0)), (1, .int a0), (2, .int a1), (3, .int a2), (4, .ref (ω.2.2 438))]) rfl (by decide +kernel) rfl (Nat.le_of_ble_eq_true rfl) rfl ?_
  have hM := (sX11_ticket (g := g) (ω := ω) hω μ a0 a1 a2   hq)
  refine rj_aload 4 dL_ticket_0 rfl rfl ?_
  refine rj_iconst (v := 0) dL_ticket_2 rfl (by decide) ?_
  refine rj_aload_n 0 dL_ticket_3 rfl rfl ?_
  refine rj_iload_n 1 dL_ticket_4 rfl rfl ?_
  refine rj_iload_n 2 dL_ticket_5 rfl rfl ?_
  refine rj_iload_n 3 dL_ticket_6 rfl rfl ?_
  rcases hf : (fX11_ticket μ a0 a1 a2) with v | E
  · rw [hf] at hM
    refine rj_cVh (rest := [.int 0, .ref (ω.2.2 438)]) hM gL_ticket_X11_ticket (rj_lt hω (k := 0) rfl) (rj_sh hω ly_0) rfl rfl hVX11_ticket ⟨(Nat.le_of_ble_eq_true rfl), (Nat.le_of_ble_eq_true rfl)⟩ dL_ticket_7 rfl rfl rfl (Nat.le_of_ble_eq_true rfl) rfl (Nat.le_of_ble_eq_true rfl) ?_ ?_
    · intro E hE
      cases hE
    · intro v0 hv
      cases hv
      refine rj_i2l dL_ticket_10 rfl ?_
      refine rj_last dL_ticket_11 rfl (rj_lt hω (k := 438) rfl) (rj_sh hω ly_438) (vp_in_nI (n := 0) (rj_bl rfl) (rj_bl rfl)) ?_
      refine rj_goto dL_ticket_12 rfl ?_
      refine rj_iconst (v := 0) dL_ticket_27 rfl (by decide) ?_
      exact rj_iret dL_ticket_28 rfl (Nat.le_of_ble_eq_true rfl) (Nat.le_of_ble_eq_true rfl) ⟨by unfold fL_ticket; rw [hf]; rfl, rfl, by unfold mL_ticket; rw [hf]; rfl⟩
  · rw [hf] at hM
    have hE := hx E hf
    refine rj_cVh (rest := [.int 0, .ref (ω.2.2 438)]) hM gL_ticket_X11_ticket (rj_lt hω (k := 0) rfl) (rj_sh hω ly_0) rfl rfl hVX11_ticket ⟨(Nat.le_of_ble_eq_true rfl), (Nat.le_of_ble_eq_true rfl)⟩ dL_ticket_7 rfl rfl rfl (Nat.le_of_ble_eq_true rfl) rfl (Nat.le_of_ble_eq_true rfl) ?_ ?_
    · intro E0 hE0
      cases hE0
      simp only [List.mem_cons, List.not_mem_nil, or_false] at hE
      rcases hE with rfl | rfl | rfl
      · refine ⟨15, ⟨[], (0, 12, 15, 19), [(0, 12, 19, 13), (0, 12, 23, 28)], "java/lang/IndexOutOfBoundsException", rfl, (fun z hz => by cases hz), by decide, by decide, by decide, by decide +kernel, by decide +kernel, rfl⟩, fun q9 => ?_⟩
        refine rj_astore (l' := [(5, .ref q9), (0, .ref (ω.2.2 0)), (1, .int a0), (2, .int a1), (3, .int a2), (4, .ref (ω.2.2 438))]) dL_ticket_15 rfl (rj_bl rfl) rfl ?_
        refine rj_iconst (v := 1) dL_ticket_17 rfl (by decide) ?_
        exact rj_iret dL_ticket_18 rfl (Nat.le_of_ble_eq_true rfl) (Nat.le_of_ble_eq_true rfl) ⟨by unfold fL_ticket; rw [hf]; decide, rfl, by unfold mL_ticket; rw [hf]; rfl⟩
      · refine ⟨19, ⟨[(0, 12, 15, 19)], (0, 12, 19, 13), [(0, 12, 23, 28)], "java/lang/IllegalArgumentException", rfl, by
            intro z hz
            simp only [List.mem_cons, List.not_mem_nil, or_false] at hz
            subst hz
            exact ⟨by decide, "java/lang/IndexOutOfBoundsException", by decide +kernel, by decide +kernel⟩, by decide, by decide, by decide, by decide +kernel, by decide +kernel, rfl⟩, fun q9 => ?_⟩
        refine rj_astore (l' := [(5, .ref q9), (0, .ref (ω.2.2 0)), (1, .int a0), (2, .int a1), (3, .int a2), (4, .ref (ω.2.2 438))]) dL_ticket_19 rfl (rj_bl rfl) rfl ?_
        refine rj_iconst (v := 2) dL_ticket_21 rfl (by decide) ?_
        exact rj_iret dL_ticket_22 rfl (Nat.le_of_ble_eq_true rfl) (Nat.le_of_ble_eq_true rfl) ⟨by unfold fL_ticket; rw [hf]; decide, rfl, by unfold mL_ticket; rw [hf]; rfl⟩
      · refine ⟨23, ⟨[(0, 12, 15, 19), (0, 12, 19, 13)], (0, 12, 23, 28), [], "java/lang/IllegalStateException", rfl, by
            intro z hz
            simp only [List.mem_cons, List.not_mem_nil, or_false] at hz
            rcases hz with rfl | rfl
            · exact ⟨by decide, "java/lang/IndexOutOfBoundsException", by decide +kernel, by decide +kernel⟩
            · exact ⟨by decide, "java/lang/IllegalArgumentException", by decide +kernel, by decide +kernel⟩, by decide, by decide, by decide, by decide +kernel, by decide +kernel, rfl⟩, fun q9 => ?_⟩
        refine rj_astore (l' := [(5, .ref q9), (0, .ref (ω.2.2 0)), (1, .int a0), (2, .int a1), (3, .int a2), (4, .ref (ω.2.2 438))]) dL_ticket_23 rfl (rj_bl rfl) rfl ?_
        refine rj_iconst (v := 3) dL_ticket_25 rfl (by decide) ?_
        exact rj_iret dL_ticket_26 rfl (Nat.le_of_ble_eq_true rfl) (Nat.le_of_ble_eq_true rfl) ⟨by unfold fL_ticket; rw [hf]; decide, rfl, by unfold mL_ticket; rw [hf]; rfl⟩
    · intro v hv
      cases hv
noncomputable def fL_refund (μ : rj_M) (a0 : Int32) (a1 : Int32) : Int32 := Sum.elim (fun _ => 0) (rj_hc ["java/lang/IndexOutOfBoundsException", "java/util/NoSuchElementException"] 1) (fX11_refund μ a0 a1)
noncomputable def mL_refund (μ : rj_M) (a0 : Int32) (a1 : Int32) : rj_M := Sum.elim (fun v => rj_pl (mX11_refund μ a0 a1) 438 0 v.toInt64) (fun _ => (mX11_refund μ a0 a1)) (fX11_refund μ a0 a1)
set_option maxHeartbeats 4000000 in
set_option maxRecDepth 100000 in
theorem sL_refund {g : rj_G} {ω : rj_W} (hω : rj_ok ω) (μ : rj_M) (a0 : Int32) (a1 : Int32) (hq : qX11_refund μ a0 a1) (hx : ∀ E : String, (fX11_refund μ a0 a1) = .inr E → E ∈ ["java/lang/IndexOutOfBoundsException", "java/util/NoSuchElementException"]) : rj_Sp g yL_refund wsL_refund (rj_rm 8 3) [.ref (ω.2.2 0), .int a0, .int a1, .ref (ω.2.2 438)] ω μ (rj_D (.inl (some (.int (fL_refund μ a0 a1)))) ω (mL_refund μ a0 a1)) := by
  refine rj_ofH (cc := cL_refund) (nL := 5) (ret := (some .int)) (hh := [(0, 10, 13, 19), (0, 10, 17, 85)]) (own := RL) (l0 := [(0, .ref (ω.2.2 0)), (1, .int a0), (2, .int a1), (3, .ref (ω.2.2 438))]) rfl (by decide +kernel) rfl (Nat.le_of_ble_eq_true rfl) rfl ?_
  have hM := (sX11_refund (g := g) (ω := ω) hω μ a0 a1   hq)
  refine rj_aload_n 3 dL_refund_0 rfl rfl ?_
  refine rj_iconst (v := 0) dL_refund_1 rfl (by decide) ?_
  refine rj_aload_n 0 dL_refund_2 rfl rfl ?_
  refine rj_iload_n 1 dL_refund_3 rfl rfl ?_
  refine rj_iload_n 2 dL_refund_4 rfl rfl ?_
  rcases hf : (fX11_refund μ a0 a1) with v | E
  · rw [hf] at hM
    refine rj_cVh (rest := [.int 0, .ref (ω.2.2 438)]) hM gL_refund_X11_refund (rj_lt hω (k := 0) rfl) (rj_sh hω ly_0) rfl rfl hVX11_refund ⟨(Nat.le_of_ble_eq_true rfl), (Nat.le_of_ble_eq_true rfl)⟩ dL_refund_5 rfl rfl rfl (Nat.le_of_ble_eq_true rfl) rfl (Nat.le_of_ble_eq_true rfl) ?_ ?_
    · intro E hE
      cases hE
    · intro v0 hv
      cases hv
      refine rj_i2l dL_refund_8 rfl ?_
      refine rj_last dL_refund_9 rfl (rj_lt hω (k := 438) rfl) (rj_sh hω ly_438) (vp_in_nI (n := 0) (rj_bl rfl) (rj_bl rfl)) ?_
      refine rj_goto dL_refund_10 rfl ?_
      refine rj_iconst (v := 0) dL_refund_21 rfl (by decide) ?_
      exact rj_iret dL_refund_22 rfl (Nat.le_of_ble_eq_true rfl) (Nat.le_of_ble_eq_true rfl) ⟨by unfold fL_refund; rw [hf]; rfl, rfl, by unfold mL_refund; rw [hf]; rfl⟩
  · rw [hf] at hM
    have hE := hx E hf
    refine rj_cVh (rest := [.int 0, .ref (ω.2.2 438)]) hM gL_refund_X11_refund (rj_lt hω (k := 0) rfl) (rj_sh hω ly_0) rfl rfl hVX11_refund ⟨(Nat.le_of_ble_eq_true rfl), (Nat.le_of_ble_eq_true rfl)⟩ dL_refund_5 rfl rfl rfl (Nat.le_of_ble_eq_true rfl) rfl (Nat.le_of_ble_eq_true rfl) ?_ ?_
    · intro E0 hE0
      cases hE0
      simp only [List.mem_cons, List.not_mem_nil, or_false] at hE
      rcases hE with rfl | rfl
      · refine ⟨13, ⟨[], (0, 10, 13, 19), [(0, 10, 17, 85)], "java/lang/IndexOutOfBoundsException", rfl, (fun z hz => by cases hz), by decide, by decide, by decide, by decide +kernel, by decide +kernel, rfl⟩, fun q9 => ?_⟩
        refine rj_astore (l' := [(4, .ref q9), (0, .ref (ω.2.2 0)), (1, .int a0), (2, .int a1), (3, .ref (ω.2.2 438))]) dL_refund_13 rfl (rj_bl rfl) rfl ?_
        refine rj_iconst (v := 1) dL_refund_15 rfl (by decide) ?_
        exact rj_iret dL_refund_16 rfl (Nat.le_of_ble_eq_true rfl) (Nat.le_of_ble_eq_true rfl) ⟨by unfold fL_refund; rw [hf]; decide, rfl, by unfold mL_refund; rw [hf]; rfl⟩
      · refine ⟨17, ⟨[(0, 10, 13, 19)], (0, 10, 17, 85), [], "java/util/NoSuchElementException", rfl, by
            intro z hz
            simp only [List.mem_cons, List.not_mem_nil, or_false] at hz
            subst hz
            exact ⟨by decide, "java/lang/IndexOutOfBoundsException", by decide +kernel, by decide +kernel⟩, by decide, by decide, by decide, by decide +kernel, by decide +kernel, rfl⟩, fun q9 => ?_⟩
        refine rj_astore (l' := [(4, .ref q9), (0, .ref (ω.2.2 0)), (1, .int a0), (2, .int a1), (3, .ref (ω.2.2 438))]) dL_refund_17 rfl (rj_bl rfl) rfl ?_
        refine rj_iconst (v := 2) dL_refund_19 rfl (by decide) ?_
        exact rj_iret dL_refund_20 rfl (Nat.le_of_ble_eq_true rfl) (Nat.le_of_ble_eq_true rfl) ⟨by unfold fL_refund; rw [hf]; decide, rfl, by unfold mL_refund; rw [hf]; rfl⟩
    · intro v hv
      cases hv
noncomputable def fL_resell (μ : rj_M) (a0 : Int32) (a1 : Int32) (a2 : Int32) : Int32 := Sum.elim (fun _ => 0) (rj_hc ["java/lang/IndexOutOfBoundsException", "java/util/NoSuchElementException", "java/lang/IllegalStateException"] 1) (fX11_resell μ a0 a1 a2)
noncomputable def mL_resell (μ : rj_M) (a0 : Int32) (a1 : Int32) (a2 : Int32) : rj_M := Sum.elim (fun v => rj_pl (mX11_resell μ a0 a1 a2) 438 0 v.toInt64) (fun _ => (mX11_resell μ a0 a1 a2)) (fX11_resell μ a0 a1 a2)
set_option maxHeartbeats 4000000 in
set_option maxRecDepth 100000 in
theorem sL_resell {g : rj_G} {ω : rj_W} (hω : rj_ok ω) (μ : rj_M) (a0 : Int32) (a1 : Int32) (a2 : Int32) (hq : qX11_resell μ a0 a1 a2) (hx : ∀ E : String, (fX11_resell μ a0 a1 a2) = .inr E → E ∈ ["java/lang/IndexOutOfBoundsException", "java/util/NoSuchElementException", "java/lang/IllegalStateException"]) : rj_Sp g yL_resell wsL_resell (rj_rm 8 5) [.ref (ω.2.2 0), .int a0, .int a1, .int a2, .ref (ω.2.2 438)] ω μ (rj_D (.inl (some (.int (fL_resell μ a0 a1 a2)))) ω (mL_resell μ a0 a1 a2)) := by
  refine rj_ofH (cc := cL_resell) (nL := 6) (ret := (some .int)) (hh := [(0, 12, 15, 19), (0, 12, 19, 85), (0, 12, 23, 28)]) (own := RL) (l0 := [(0, .ref (ω.2.2 0)), (1, .int a0), (2, .int a1), (3, .int a2), (4, .ref (ω.2.2 438))]) rfl (by decide +kernel) rfl (Nat.le_of_ble_eq_true rfl) rfl ?_
  have hM := (sX11_resell (g := g) (ω := ω) hω μ a0 a1 a2   hq)
  refine rj_aload 4 dL_resell_0 rfl rfl ?_
  refine rj_iconst (v := 0) dL_resell_2 rfl (by decide) ?_
  refine rj_aload_n 0 dL_resell_3 rfl rfl ?_
  refine rj_iload_n 1 dL_resell_4 rfl rfl ?_
  refine rj_iload_n 2 dL_resell_5 rfl rfl ?_
  refine rj_iload_n 3 dL_resell_6 rfl rfl ?_
  rcases hf : (fX11_resell μ a0 a1 a2) with v | E
  · rw [hf] at hM
    refine rj_cVh (rest := [.int 0, .ref (ω.2.2 438)]) hM gL_resell_X11_resell (rj_lt hω (k := 0) rfl) (rj_sh hω ly_0) rfl rfl hVX11_resell ⟨(Nat.le_of_ble_eq_true rfl), (Nat.le_of_ble_eq_true rfl)⟩ dL_resell_7 rfl rfl rfl (Nat.le_of_ble_eq_true rfl) rfl (Nat.le_of_ble_eq_true rfl) ?_ ?_
    · intro E hE
      cases hE
    · intro v0 hv
      cases hv
      refine rj_i2l dL_resell_10 rfl ?_
      refine rj_last dL_resell_11 rfl (rj_lt hω (k := 438) rfl) (rj_sh hω ly_438) (vp_in_nI (n := 0) (rj_bl rfl) (rj_bl rfl)) ?_
      refine rj_goto dL_resell_12 rfl ?_
      refine rj_iconst (v := 0) dL_resell_27 rfl (by decide) ?_
      exact rj_iret dL_resell_28 rfl (Nat.le_of_ble_eq_true rfl) (Nat.le_of_ble_eq_true rfl) ⟨by unfold fL_resell; rw [hf]; rfl, rfl, by unfold mL_resell; rw [hf]; rfl⟩
  · rw [hf] at hM
    have hE := hx E hf
    refine rj_cVh (rest := [.int 0, .ref (ω.2.2 438)]) hM gL_resell_X11_resell (rj_lt hω (k := 0) rfl) (rj_sh hω ly_0) rfl rfl hVX11_resell ⟨(Nat.le_of_ble_eq_true rfl), (Nat.le_of_ble_eq_true rfl)⟩ dL_resell_7 rfl rfl rfl (Nat.le_of_ble_eq_true rfl) rfl (Nat.le_of_ble_eq_true rfl) ?_ ?_
    · intro E0 hE0
      cases hE0
      simp only [List.mem_cons, List.not_mem_nil, or_false] at hE
      rcases hE with rfl | rfl | rfl
      · refine ⟨15, ⟨[], (0, 12, 15, 19), [(0, 12, 19, 85), (0, 12, 23, 28)], "java/lang/IndexOutOfBoundsException", rfl, (fun z hz => by cases hz), by decide, by decide, by decide, by decide +kernel, by decide +kernel, rfl⟩, fun q9 => ?_⟩
        refine rj_astore (l' := [(5, .ref q9), (0, .ref (ω.2.2 0)), (1, .int a0), (2, .int a1), (3, .int a2), (4, .ref (ω.2.2 438))]) dL_resell_15 rfl (rj_bl rfl) rfl ?_
        refine rj_iconst (v := 1) dL_resell_17 rfl (by decide) ?_
        exact rj_iret dL_resell_18 rfl (Nat.le_of_ble_eq_true rfl) (Nat.le_of_ble_eq_true rfl) ⟨by unfold fL_resell; rw [hf]; decide, rfl, by unfold mL_resell; rw [hf]; rfl⟩
      · refine ⟨19, ⟨[(0, 12, 15, 19)], (0, 12, 19, 85), [(0, 12, 23, 28)], "java/util/NoSuchElementException", rfl, by
            intro z hz
            simp only [List.mem_cons, List.not_mem_nil, or_false] at hz
            subst hz
            exact ⟨by decide, "java/lang/IndexOutOfBoundsException", by decide +kernel, by decide +kernel⟩, by decide, by decide, by decide, by decide +kernel, by decide +kernel, rfl⟩, fun q9 => ?_⟩
        refine rj_astore (l' := [(5, .ref q9), (0, .ref (ω.2.2 0)), (1, .int a0), (2, .int a1), (3, .int a2), (4, .ref (ω.2.2 438))]) dL_resell_19 rfl (rj_bl rfl) rfl ?_
        refine rj_iconst (v := 2) dL_resell_21 rfl (by decide) ?_
        exact rj_iret dL_resell_22 rfl (Nat.le_of_ble_eq_true rfl) (Nat.le_of_ble_eq_true rfl) ⟨by unfold fL_resell; rw [hf]; decide, rfl, by unfold mL_resell; rw [hf]; rfl⟩
      · refine ⟨23, ⟨[(0, 12, 15, 19), (0, 12, 19, 85)], (0, 12, 23, 28), [], "java/lang/IllegalStateException", rfl, by
            intro z hz
            simp only [List.mem_cons, List.not_mem_nil, or_false] at hz
            rcases hz with rfl | rfl
            · exact ⟨by decide, "java/lang/IndexOutOfBoundsException", by decide +kernel, by decide +kernel⟩
            · exact ⟨by decide, "java/util/NoSuchElementException", by decide +kernel, by decide +kernel⟩, by decide, by decide, by decide, by decide +kernel, by decide +kernel, rfl⟩, fun q9 => ?_⟩
        refine rj_astore (l' := [(5, .ref q9), (0, .ref (ω.2.2 0)), (1, .int a0), (2, .int a1), (3, .int a2), (4, .ref (ω.2.2 438))]) dL_resell_23 rfl (rj_bl rfl) rfl ?_
        refine rj_iconst (v := 3) dL_resell_25 rfl (by decide) ?_
        exact rj_iret dL_resell_26 rfl (Nat.le_of_ble_eq_true rfl) (Nat.le_of_ble_eq_true rfl) ⟨by unfold fL_resell; rw [hf]; decide, rfl, by unfold mL_resell; rw [hf]; rfl⟩
    · intro v hv
      cases hv
noncomputable def fL_lose (μ : rj_M) (a0 : Int32) (a1 : Int32) : Int32 := Sum.elim (fun _ => 0) (rj_hc ["java/lang/IndexOutOfBoundsException", "java/lang/IllegalArgumentException"] 1) (fX11_lose μ a0 a1)
noncomputable def mL_lose (μ : rj_M) (a0 : Int32) (a1 : Int32) : rj_M := Sum.elim (fun v => rj_pl (mX11_lose μ a0 a1) 438 0 v.toInt64) (fun _ => (mX11_lose μ a0 a1)) (fX11_lose μ a0 a1)
set_option maxHeartbeats 4000000 in
set_option maxRecDepth 100000 in
theorem sL_lose {g : rj_G} {ω : rj_W} (hω : rj_ok ω) (μ : rj_M) (a0 : Int32) (a1 : Int32) (hq : qX11_lose μ a0 a1) (hx : ∀ E : String, (fX11_lose μ a0 a1) = .inr E → E ∈ ["java/lang/IndexOutOfBoundsException", "java/lang/IllegalArgumentException"]) : rj_Sp g yL_lose wsL_lose (rj_rm 8 2) [.ref (ω.2.2 0), .int a0, .int a1, .ref (ω.2.2 438)] ω μ (rj_D (.inl (some (.int (fL_lose μ a0 a1)))) ω (mL_lose μ a0 a1)) := by
  refine rj_ofH (cc := cL_lose) (nL := 5) (ret := (some .int)) (hh := [(0, 10, 13, 19), (0, 10, 17, 13)]) (own := RL) (l0 := [(0, .ref (ω.2.2 0)), (1, .int a0), (2, .int a1), (3, .ref (ω.2.2 438))]) rfl (by decide +kernel) rfl (Nat.le_of_ble_eq_true rfl) rfl ?_
  have hM := (sX11_lose (g := g) (ω := ω) hω μ a0 a1   hq)
  refine rj_aload_n 3 dL_lose_0 rfl rfl ?_
  refine rj_iconst (v := 0) dL_lose_1 rfl (by decide) ?_
  refine rj_aload_n 0 dL_lose_2 rfl rfl ?_
  refine rj_iload_n 1 dL_lose_3 rfl rfl ?_
  refine rj_iload_n 2 dL_lose_4 rfl rfl ?_
  rcases hf : (fX11_lose μ a0 a1) with v | E
  · rw [hf] at hM
    refine rj_cVh (rest := [.int 0, .ref (ω.2.2 438)]) hM gL_lose_X11_lose (rj_lt hω (k := 0) rfl) (rj_sh hω ly_0) rfl rfl hVX11_lose ⟨(Nat.le_of_ble_eq_true rfl), (Nat.le_of_ble_eq_true rfl)⟩ dL_lose_5 rfl rfl rfl (Nat.le_of_ble_eq_true rfl) rfl (Nat.le_of_ble_eq_true rfl) ?_ ?_
    · intro E hE
      cases hE
    · intro v0 hv
      cases hv
      refine rj_i2l dL_lose_8 rfl ?_
      refine rj_last dL_lose_9 rfl (rj_lt hω (k := 438) rfl) (rj_sh hω ly_438) (vp_in_nI (n := 0) (rj_bl rfl) (rj_bl rfl)) ?_
      refine rj_goto dL_lose_10 rfl ?_
      refine rj_iconst (v := 0) dL_lose_21 rfl (by decide) ?_
      exact rj_iret dL_lose_22 rfl (Nat.le_of_ble_eq_true rfl) (Nat.le_of_ble_eq_true rfl) ⟨by unfold fL_lose; rw [hf]; rfl, rfl, by unfold mL_lose; rw [hf]; rfl⟩
  · rw [hf] at hM
    have hE := hx E hf
    refine rj_cVh (rest := [.int 0, .ref (ω.2.2 438)]) hM gL_lose_X11_lose (rj_lt hω (k := 0) rfl) (rj_sh hω ly_0) rfl rfl hVX11_lose ⟨(Nat.le_of_ble_eq_true rfl), (Nat.le_of_ble_eq_true rfl)⟩ dL_lose_5 rfl rfl rfl (Nat.le_of_ble_eq_true rfl) rfl (Nat.le_of_ble_eq_true rfl) ?_ ?_
    · intro E0 hE0
      cases hE0
      simp only [List.mem_cons, List.not_mem_nil, or_false] at hE
      rcases hE with rfl | rfl
      · refine ⟨13, ⟨[], (0, 10, 13, 19), [(0, 10, 17, 13)], "java/lang/IndexOutOfBoundsException", rfl, (fun z hz => by cases hz), by decide, by decide, by decide, by decide +kernel, by decide +kernel, rfl⟩, fun q9 => ?_⟩
        refine rj_astore (l' := [(4, .ref q9), (0, .ref (ω.2.2 0)), (1, .int a0), (2, .int a1), (3, .ref (ω.2.2 438))]) dL_lose_13 rfl (rj_bl rfl) rfl ?_
        refine rj_iconst (v := 1) dL_lose_15 rfl (by decide) ?_
        exact rj_iret dL_lose_16 rfl (Nat.le_of_ble_eq_true rfl) (Nat.le_of_ble_eq_true rfl) ⟨by unfold fL_lose; rw [hf]; decide, rfl, by unfold mL_lose; rw [hf]; rfl⟩
      · refine ⟨17, ⟨[(0, 10, 13, 19)], (0, 10, 17, 13), [], "java/lang/IllegalArgumentException", rfl, by
            intro z hz
            simp only [List.mem_cons, List.not_mem_nil, or_false] at hz
            subst hz
            exact ⟨by decide, "java/lang/IndexOutOfBoundsException", by decide +kernel, by decide +kernel⟩, by decide, by decide, by decide, by decide +kernel, by decide +kernel, rfl⟩, fun q9 => ?_⟩
        refine rj_astore (l' := [(4, .ref q9), (0, .ref (ω.2.2 0)), (1, .int a0), (2, .int a1), (3, .ref (ω.2.2 438))]) dL_lose_17 rfl (rj_bl rfl) rfl ?_
        refine rj_iconst (v := 2) dL_lose_19 rfl (by decide) ?_
        exact rj_iret dL_lose_20 rfl (Nat.le_of_ble_eq_true rfl) (Nat.le_of_ble_eq_true rfl) ⟨by unfold fL_lose; rw [hf]; decide, rfl, by unfold mL_lose; rw [hf]; rfl⟩
    · intro v hv
      cases hv
noncomputable def fL_find (μ : rj_M) (a0 : Int32) : Int32 := Sum.elim (fun _ => 0) (rj_hc ["java/lang/IndexOutOfBoundsException", "java/util/NoSuchElementException"] 1) (fX11_find μ a0)
noncomputable def mL_find (μ : rj_M) (a0 : Int32) : rj_M := Sum.elim (fun v => rj_pl (mX11_find μ a0) 438 0 v.toInt64) (fun _ => (mX11_find μ a0)) (fX11_find μ a0)
set_option maxHeartbeats 4000000 in
set_option maxRecDepth 100000 in
theorem sL_find {g : rj_G} {ω : rj_W} (hω : rj_ok ω) (μ : rj_M) (a0 : Int32) (hq : qX11_find μ a0) (hx : ∀ E : String, (fX11_find μ a0) = .inr E → E ∈ ["java/lang/IndexOutOfBoundsException", "java/util/NoSuchElementException"]) : rj_Sp g yL_find wsL_find (rj_rm 8 2) [.ref (ω.2.2 0), .int a0, .ref (ω.2.2 438)] ω μ (rj_D (.inl (some (.int (fL_find μ a0)))) ω (mL_find μ a0)) := by
  refine rj_ofH (cc := cL_find) (nL := 4) (ret := (some .int)) (hh := [(0, 9, 12, 19), (0, 9, 15, 85)]) (own := RL) (l0 := [(0, .ref (ω.2.2 0)), (1, .int a0), (2, .ref (ω.2.2 438))]) rfl (by decide +kernel) rfl (Nat.le_of_ble_eq_true rfl) rfl ?_
  have hM := (sX11_find (g := g) (ω := ω) hω μ a0   hq)
  refine rj_aload_n 2 dL_find_0 rfl rfl ?_
  refine rj_iconst (v := 0) dL_find_1 rfl (by decide) ?_
  refine rj_aload_n 0 dL_find_2 rfl rfl ?_
  refine rj_iload_n 1 dL_find_3 rfl rfl ?_
  rcases hf : (fX11_find μ a0) with v | E
  · rw [hf] at hM
    refine rj_cVh (rest := [.int 0, .ref (ω.2.2 438)]) hM gL_find_X11_find (rj_lt hω (k := 0) rfl) (rj_sh hω ly_0) rfl rfl hVX11_find ⟨(Nat.le_of_ble_eq_true rfl), (Nat.le_of_ble_eq_true rfl)⟩ dL_find_4 rfl rfl rfl (Nat.le_of_ble_eq_true rfl) rfl (Nat.le_of_ble_eq_true rfl) ?_ ?_
    · intro E hE
      cases hE
    · intro v0 hv
      cases hv
      refine rj_i2l dL_find_7 rfl ?_
      refine rj_last dL_find_8 rfl (rj_lt hω (k := 438) rfl) (rj_sh hω ly_438) (vp_in_nI (n := 0) (rj_bl rfl) (rj_bl rfl)) ?_
      refine rj_goto dL_find_9 rfl ?_
      refine rj_iconst (v := 0) dL_find_18 rfl (by decide) ?_
      exact rj_iret dL_find_19 rfl (Nat.le_of_ble_eq_true rfl) (Nat.le_of_ble_eq_true rfl) ⟨by unfold fL_find; rw [hf]; rfl, rfl, by unfold mL_find; rw [hf]; rfl⟩
  · rw [hf] at hM
    have hE := hx E hf
    refine rj_cVh (rest := [.int 0, .ref (ω.2.2 438)]) hM gL_find_X11_find (rj_lt hω (k := 0) rfl) (rj_sh hω ly_0) rfl rfl hVX11_find ⟨(Nat.le_of_ble_eq_true rfl), (Nat.le_of_ble_eq_true rfl)⟩ dL_find_4 rfl rfl rfl (Nat.le_of_ble_eq_true rfl) rfl (Nat.le_of_ble_eq_true rfl) ?_ ?_
    · intro E0 hE0
      cases hE0
      simp only [List.mem_cons, List.not_mem_nil, or_false] at hE
      rcases hE with rfl | rfl
      · refine ⟨12, ⟨[], (0, 9, 12, 19), [(0, 9, 15, 85)], "java/lang/IndexOutOfBoundsException", rfl, (fun z hz => by cases hz), by decide, by decide, by decide, by decide +kernel, by decide +kernel, rfl⟩, fun q9 => ?_⟩
        refine rj_astore_n (l' := [(3, .ref q9), (0, .ref (ω.2.2 0)), (1, .int a0), (2, .ref (ω.2.2 438))]) dL_find_12 rfl (rj_bl rfl) rfl ?_
        refine rj_iconst (v := 1) dL_find_13 rfl (by decide) ?_
        exact rj_iret dL_find_14 rfl (Nat.le_of_ble_eq_true rfl) (Nat.le_of_ble_eq_true rfl) ⟨by unfold fL_find; rw [hf]; decide, rfl, by unfold mL_find; rw [hf]; rfl⟩
      · refine ⟨15, ⟨[(0, 9, 12, 19)], (0, 9, 15, 85), [], "java/util/NoSuchElementException", rfl, by
            intro z hz
            simp only [List.mem_cons, List.not_mem_nil, or_false] at hz
            subst hz
            exact ⟨by decide, "java/lang/IndexOutOfBoundsException", by decide +kernel, by decide +kernel⟩, by decide, by decide, by decide, by decide +kernel, by decide +kernel, rfl⟩, fun q9 => ?_⟩
        refine rj_astore_n (l' := [(3, .ref q9), (0, .ref (ω.2.2 0)), (1, .int a0), (2, .ref (ω.2.2 438))]) dL_find_15 rfl (rj_bl rfl) rfl ?_
        refine rj_iconst (v := 2) dL_find_16 rfl (by decide) ?_
        exact rj_iret dL_find_17 rfl (Nat.le_of_ble_eq_true rfl) (Nat.le_of_ble_eq_true rfl) ⟨by unfold fL_find; rw [hf]; decide, rfl, by unfold mL_find; rw [hf]; rfl⟩
    · intro v hv
      cases hv
noncomputable def fL_undo (μ : rj_M)  : Int32 := Sum.elim (fun _ => 0) (rj_hc ["java/lang/IllegalStateException"] 1) (fX11_undo μ)
noncomputable def mL_undo (μ : rj_M)  : rj_M := Sum.elim (fun v => rj_pl (mX11_undo μ) 438 0 v.toInt64) (fun _ => (mX11_undo μ)) (fX11_undo μ)
set_option maxHeartbeats 4000000 in
set_option maxRecDepth 100000 in
theorem sL_undo {g : rj_G} {ω : rj_W} (hω : rj_ok ω) (μ : rj_M)  (hq : qX11_undo μ) (hx : ∀ E : String, (fX11_undo μ) = .inr E → E ∈ ["java/lang/IllegalStateException"]) : rj_Sp g yL_undo wsL_undo (rj_rm 7 1) [.ref (ω.2.2 0), .ref (ω.2.2 438)] ω μ (rj_D (.inl (some (.int (fL_undo μ)))) ω (mL_undo μ)) := by
  refine rj_ofH (cc := cL_undo) (nL := 3) (ret := (some .int)) (hh := [(0, 8, 11, 28)]) (own := RL) (l0 := [(0, .ref (ω.2.2 0)), (1, .ref (ω.2.2 438))]) rfl (by decide +kernel) rfl (Nat.le_of_ble_eq_true rfl) rfl ?_
  have hM := (sX11_undo (g := g) (ω := ω) hω μ   hq)
  refine rj_aload_n 1 dL_undo_0 rfl rfl ?_
  refine rj_iconst (v := 0) dL_undo_1 rfl (by decide) ?_
  refine rj_aload_n 0 dL_undo_2 rfl rfl ?_
  rcases hf : (fX11_undo μ) with v | E
  · rw [hf] at hM
    refine rj_cVh (rest := [.int 0, .ref (ω.2.2 438)]) hM gL_undo_X11_undo (rj_lt hω (k := 0) rfl) (rj_sh hω ly_0) rfl rfl hVX11_undo ⟨(Nat.le_of_ble_eq_true rfl), (Nat.le_of_ble_eq_true rfl)⟩ dL_undo_3 rfl rfl rfl (Nat.le_of_ble_eq_true rfl) rfl (Nat.le_of_ble_eq_true rfl) ?_ ?_
    · intro E hE
      cases hE
    · intro v0 hv
      cases hv
      refine rj_i2l dL_undo_6 rfl ?_
      refine rj_last dL_undo_7 rfl (rj_lt hω (k := 438) rfl) (rj_sh hω ly_438) (vp_in_nI (n := 0) (rj_bl rfl) (rj_bl rfl)) ?_
      refine rj_goto dL_undo_8 rfl ?_
      refine rj_iconst (v := 0) dL_undo_14 rfl (by decide) ?_
      exact rj_iret dL_undo_15 rfl (Nat.le_of_ble_eq_true rfl) (Nat.le_of_ble_eq_true rfl) ⟨by unfold fL_undo; rw [hf]; rfl, rfl, by unfold mL_undo; rw [hf]; rfl⟩
  · rw [hf] at hM
    have hE := hx E hf
    refine rj_cVh (rest := [.int 0, .ref (ω.2.2 438)]) hM gL_undo_X11_undo (rj_lt hω (k := 0) rfl) (rj_sh hω ly_0) rfl rfl hVX11_undo ⟨(Nat.le_of_ble_eq_true rfl), (Nat.le_of_ble_eq_true rfl)⟩ dL_undo_3 rfl rfl rfl (Nat.le_of_ble_eq_true rfl) rfl (Nat.le_of_ble_eq_true rfl) ?_ ?_
    · intro E0 hE0
      cases hE0
      simp only [List.mem_cons, List.not_mem_nil, or_false] at hE
      subst hE
      refine ⟨11, ⟨[], (0, 8, 11, 28), [], "java/lang/IllegalStateException", rfl, (fun z hz => by cases hz), by decide, by decide, by decide, by decide +kernel, by decide +kernel, rfl⟩, fun q9 => ?_⟩
      refine rj_astore_n (l' := [(2, .ref q9), (0, .ref (ω.2.2 0)), (1, .ref (ω.2.2 438))]) dL_undo_11 rfl (rj_bl rfl) rfl ?_
      refine rj_iconst (v := 1) dL_undo_12 rfl (by decide) ?_
      exact rj_iret dL_undo_13 rfl (Nat.le_of_ble_eq_true rfl) (Nat.le_of_ble_eq_true rfl) ⟨by unfold fL_undo; rw [hf]; decide, rfl, by unfold mL_undo; rw [hf]; rfl⟩
    · intro v hv
      cases hv
noncomputable def fL_dateAt (μ : rj_M) (a0 : Int32) (a1 : Int32) : Int32 := Sum.elim (fun _ => 0) (rj_hc ["java/lang/IllegalArgumentException"] 1) (fX11_dateAt μ a0 a1)
noncomputable def mL_dateAt (μ : rj_M) (a0 : Int32) (a1 : Int32) : rj_M := Sum.elim (fun v => rj_pl μ 438 0 v.toInt64) (fun _ => μ) (fX11_dateAt μ a0 a1)
set_option maxHeartbeats 4000000 in
set_option maxRecDepth 100000 in
theorem sL_dateAt {g : rj_G} {ω : rj_W} (hω : rj_ok ω) (μ : rj_M) (a0 : Int32) (a1 : Int32) (hx : ∀ E : String, (fX11_dateAt μ a0 a1) = .inr E → E ∈ ["java/lang/IllegalArgumentException"]) : rj_Sp g yL_dateAt wsL_dateAt (rj_rm 8 2) [.ref (ω.2.2 0), .int a0, .int a1, .ref (ω.2.2 438)] ω μ (rj_D (.inl (some (.int (fL_dateAt μ a0 a1)))) ω (mL_dateAt μ a0 a1)) := by
  refine rj_ofH (cc := cL_dateAt) (nL := 5) (ret := (some .int)) (hh := [(0, 10, 13, 13)]) (own := RL) (l0 := [(0, .ref (ω.2.2 0)), (1, .int a0), (2, .int a1), (3, .ref (ω.2.2 438))]) rfl (by decide +kernel) rfl (Nat.le_of_ble_eq_true rfl) rfl ?_
  have hM := (sX11_dateAt (g := g) (ω := ω) hω μ a0 a1   )
  refine rj_aload_n 3 dL_dateAt_0 rfl rfl ?_
  refine rj_iconst (v := 0) dL_dateAt_1 rfl (by decide) ?_
  refine rj_aload_n 0 dL_dateAt_2 rfl rfl ?_
  refine rj_iload_n 1 dL_dateAt_3 rfl rfl ?_
  refine rj_iload_n 2 dL_dateAt_4 rfl rfl ?_
  rcases hf : (fX11_dateAt μ a0 a1) with v | E
  · rw [hf] at hM
    refine rj_cVh (rest := [.int 0, .ref (ω.2.2 438)]) hM gL_dateAt_X11_dateAt (rj_lt hω (k := 0) rfl) (rj_sh hω ly_0) rfl rfl hVX11_dateAt ⟨(Nat.le_of_ble_eq_true rfl), (Nat.le_of_ble_eq_true rfl)⟩ dL_dateAt_5 rfl rfl rfl (Nat.le_of_ble_eq_true rfl) rfl (Nat.le_of_ble_eq_true rfl) ?_ ?_
    · intro E hE
      cases hE
    · intro v0 hv
      cases hv
      refine rj_i2l dL_dateAt_8 rfl ?_
      refine rj_last dL_dateAt_9 rfl (rj_lt hω (k := 438) rfl) (rj_sh hω ly_438) (vp_in_nI (n := 0) (rj_bl rfl) (rj_bl rfl)) ?_
      refine rj_goto dL_dateAt_10 rfl ?_
      refine rj_iconst (v := 0) dL_dateAt_17 rfl (by decide) ?_
      exact rj_iret dL_dateAt_18 rfl (Nat.le_of_ble_eq_true rfl) (Nat.le_of_ble_eq_true rfl) ⟨by unfold fL_dateAt; rw [hf]; rfl, rfl, by unfold mL_dateAt; rw [hf]; rfl⟩
  · rw [hf] at hM
    have hE := hx E hf
    refine rj_cVh (rest := [.int 0, .ref (ω.2.2 438)]) hM gL_dateAt_X11_dateAt (rj_lt hω (k := 0) rfl) (rj_sh hω ly_0) rfl rfl hVX11_dateAt ⟨(Nat.le_of_ble_eq_true rfl), (Nat.le_of_ble_eq_true rfl)⟩ dL_dateAt_5 rfl rfl rfl (Nat.le_of_ble_eq_true rfl) rfl (Nat.le_of_ble_eq_true rfl) ?_ ?_
    · intro E0 hE0
      cases hE0
      simp only [List.mem_cons, List.not_mem_nil, or_false] at hE
      subst hE
      refine ⟨13, ⟨[], (0, 10, 13, 13), [], "java/lang/IllegalArgumentException", rfl, (fun z hz => by cases hz), by decide, by decide, by decide, by decide +kernel, by decide +kernel, rfl⟩, fun q9 => ?_⟩
      refine rj_astore (l' := [(4, .ref q9), (0, .ref (ω.2.2 0)), (1, .int a0), (2, .int a1), (3, .ref (ω.2.2 438))]) dL_dateAt_13 rfl (rj_bl rfl) rfl ?_
      refine rj_iconst (v := 1) dL_dateAt_15 rfl (by decide) ?_
      exact rj_iret dL_dateAt_16 rfl (Nat.le_of_ble_eq_true rfl) (Nat.le_of_ble_eq_true rfl) ⟨by unfold fL_dateAt; rw [hf]; decide, rfl, by unfold mL_dateAt; rw [hf]; rfl⟩
    · intro v hv
      cases hv
noncomputable def fL_walk (μ : rj_M) (a0 : Int32) (a1 : Int32) : Int32 := Sum.elim (fun _ => 0) (rj_hc ["java/lang/IndexOutOfBoundsException"] 1) (fX11_walk μ a0 a1)
noncomputable def mL_walk (μ : rj_M) (a0 : Int32) (a1 : Int32) : rj_M := Sum.elim (fun v => rj_pl μ 438 0 v.toInt64) (fun _ => μ) (fX11_walk μ a0 a1)
set_option maxHeartbeats 4000000 in
set_option maxRecDepth 100000 in
theorem sL_walk {g : rj_G} {ω : rj_W} (hω : rj_ok ω) (μ : rj_M) (a0 : Int32) (a1 : Int32) (hx : ∀ E : String, (fX11_walk μ a0 a1) = .inr E → E ∈ ["java/lang/IndexOutOfBoundsException"]) : rj_Sp g yL_walk wsL_walk (rj_rm 8 2) [.ref (ω.2.2 0), .int a0, .int a1, .ref (ω.2.2 438)] ω μ (rj_D (.inl (some (.int (fL_walk μ a0 a1)))) ω (mL_walk μ a0 a1)) := by
  refine rj_ofH (cc := cL_walk) (nL := 5) (ret := (some .int)) (hh := [(0, 10, 13, 19)]) (own := RL) (l0 := [(0, .ref (ω.2.2 0)), (1, .int a0), (2, .int a1), (3, .ref (ω.2.2 438))]) rfl (by decide +kernel) rfl (Nat.le_of_ble_eq_true rfl) rfl ?_
  have hM := (sX11_walk (g := g) (ω := ω) hω μ a0 a1   )
  refine rj_aload_n 3 dL_walk_0 rfl rfl ?_
  refine rj_iconst (v := 0) dL_walk_1 rfl (by decide) ?_
  refine rj_aload_n 0 dL_walk_2 rfl rfl ?_
  refine rj_iload_n 1 dL_walk_3 rfl rfl ?_
  refine rj_iload_n 2 dL_walk_4 rfl rfl ?_
  rcases hf : (fX11_walk μ a0 a1) with v | E
  · rw [hf] at hM
    refine rj_cVh (rest := [.int 0, .ref (ω.2.2 438)]) hM gL_walk_X11_walk (rj_lt hω (k := 0) rfl) (rj_sh hω ly_0) rfl rfl hVX11_walk ⟨(Nat.le_of_ble_eq_true rfl), (Nat.le_of_ble_eq_true rfl)⟩ dL_walk_5 rfl rfl rfl (Nat.le_of_ble_eq_true rfl) rfl (Nat.le_of_ble_eq_true rfl) ?_ ?_
    · intro E hE
      cases hE
    · intro v0 hv
      cases hv
      refine rj_i2l dL_walk_8 rfl ?_
      refine rj_last dL_walk_9 rfl (rj_lt hω (k := 438) rfl) (rj_sh hω ly_438) (vp_in_nI (n := 0) (rj_bl rfl) (rj_bl rfl)) ?_
      refine rj_goto dL_walk_10 rfl ?_
      refine rj_iconst (v := 0) dL_walk_17 rfl (by decide) ?_
      exact rj_iret dL_walk_18 rfl (Nat.le_of_ble_eq_true rfl) (Nat.le_of_ble_eq_true rfl) ⟨by unfold fL_walk; rw [hf]; rfl, rfl, by unfold mL_walk; rw [hf]; rfl⟩
  · rw [hf] at hM
    have hE := hx E hf
    refine rj_cVh (rest := [.int 0, .ref (ω.2.2 438)]) hM gL_walk_X11_walk (rj_lt hω (k := 0) rfl) (rj_sh hω ly_0) rfl rfl hVX11_walk ⟨(Nat.le_of_ble_eq_true rfl), (Nat.le_of_ble_eq_true rfl)⟩ dL_walk_5 rfl rfl rfl (Nat.le_of_ble_eq_true rfl) rfl (Nat.le_of_ble_eq_true rfl) ?_ ?_
    · intro E0 hE0
      cases hE0
      simp only [List.mem_cons, List.not_mem_nil, or_false] at hE
      subst hE
      refine ⟨13, ⟨[], (0, 10, 13, 19), [], "java/lang/IndexOutOfBoundsException", rfl, (fun z hz => by cases hz), by decide, by decide, by decide, by decide +kernel, by decide +kernel, rfl⟩, fun q9 => ?_⟩
      refine rj_astore (l' := [(4, .ref q9), (0, .ref (ω.2.2 0)), (1, .int a0), (2, .int a1), (3, .ref (ω.2.2 438))]) dL_walk_13 rfl (rj_bl rfl) rfl ?_
      refine rj_iconst (v := 1) dL_walk_15 rfl (by decide) ?_
      exact rj_iret dL_walk_16 rfl (Nat.le_of_ble_eq_true rfl) (Nat.le_of_ble_eq_true rfl) ⟨by unfold fL_walk; rw [hf]; decide, rfl, by unfold mL_walk; rw [hf]; rfl⟩
    · intro v hv
      cases hv
noncomputable def fL_actAt (μ : rj_M) (a0 : Int32) (a1 : Int32) : Int32 := Sum.elim (fun _ => 0) (rj_hc ["java/lang/IndexOutOfBoundsException", "java/lang/IllegalArgumentException"] 1) (fX11_actAt μ a0 a1)
noncomputable def mL_actAt (μ : rj_M) (a0 : Int32) (a1 : Int32) : rj_M := Sum.elim (fun v => rj_pl (mX11_actAt μ a0 a1) 438 0 v.toInt64) (fun _ => (mX11_actAt μ a0 a1)) (fX11_actAt μ a0 a1)
set_option maxHeartbeats 4000000 in
set_option maxRecDepth 100000 in
theorem sL_actAt {g : rj_G} {ω : rj_W} (hω : rj_ok ω) (μ : rj_M) (a0 : Int32) (a1 : Int32) (hq : qX11_actAt μ a0 a1) (hx : ∀ E : String, (fX11_actAt μ a0 a1) = .inr E → E ∈ ["java/lang/IndexOutOfBoundsException", "java/lang/IllegalArgumentException"]) : rj_Sp g yL_actAt wsL_actAt (rj_rm 21 2) [.ref (ω.2.2 0), .int a0, .int a1, .ref (ω.2.2 438)] ω μ (rj_D (.inl (some (.int (fL_actAt μ a0 a1)))) ω (mL_actAt μ a0 a1)) := by
  refine rj_ofH (cc := cL_actAt) (nL := 5) (ret := (some .int)) (hh := [(0, 10, 13, 19), (0, 10, 17, 13)]) (own := RL) (l0 := [(0, .ref (ω.2.2 0)), (1, .int a0), (2, .int a1), (3, .ref (ω.2.2 438))]) rfl (by decide +kernel) rfl (Nat.le_of_ble_eq_true rfl) rfl ?_
  have hM := (sX11_actAt (g := g) (ω := ω) hω μ a0 a1   hq)
  refine rj_aload_n 3 dL_actAt_0 rfl rfl ?_
  refine rj_iconst (v := 0) dL_actAt_1 rfl (by decide) ?_
  refine rj_aload_n 0 dL_actAt_2 rfl rfl ?_
  refine rj_iload_n 1 dL_actAt_3 rfl rfl ?_
  refine rj_iload_n 2 dL_actAt_4 rfl rfl ?_
  rcases hf : (fX11_actAt μ a0 a1) with v | E
  · rw [hf] at hM
    refine rj_cVh (rest := [.int 0, .ref (ω.2.2 438)]) hM gL_actAt_X11_actAt (rj_lt hω (k := 0) rfl) (rj_sh hω ly_0) rfl rfl hVX11_actAt ⟨(Nat.le_of_ble_eq_true rfl), (Nat.le_of_ble_eq_true rfl)⟩ dL_actAt_5 rfl rfl rfl (Nat.le_of_ble_eq_true rfl) rfl (Nat.le_of_ble_eq_true rfl) ?_ ?_
    · intro E hE
      cases hE
    · intro v0 hv
      cases hv
      refine rj_i2l dL_actAt_8 rfl ?_
      refine rj_last dL_actAt_9 rfl (rj_lt hω (k := 438) rfl) (rj_sh hω ly_438) (vp_in_nI (n := 0) (rj_bl rfl) (rj_bl rfl)) ?_
      refine rj_goto dL_actAt_10 rfl ?_
      refine rj_iconst (v := 0) dL_actAt_21 rfl (by decide) ?_
      exact rj_iret dL_actAt_22 rfl (Nat.le_of_ble_eq_true rfl) (Nat.le_of_ble_eq_true rfl) ⟨by unfold fL_actAt; rw [hf]; rfl, rfl, by unfold mL_actAt; rw [hf]; rfl⟩
  · rw [hf] at hM
    have hE := hx E hf
    refine rj_cVh (rest := [.int 0, .ref (ω.2.2 438)]) hM gL_actAt_X11_actAt (rj_lt hω (k := 0) rfl) (rj_sh hω ly_0) rfl rfl hVX11_actAt ⟨(Nat.le_of_ble_eq_true rfl), (Nat.le_of_ble_eq_true rfl)⟩ dL_actAt_5 rfl rfl rfl (Nat.le_of_ble_eq_true rfl) rfl (Nat.le_of_ble_eq_true rfl) ?_ ?_
    · intro E0 hE0
      cases hE0
      simp only [List.mem_cons, List.not_mem_nil, or_false] at hE
      rcases hE with rfl | rfl
      · refine ⟨13, ⟨[], (0, 10, 13, 19), [(0, 10, 17, 13)], "java/lang/IndexOutOfBoundsException", rfl, (fun z hz => by cases hz), by decide, by decide, by decide, by decide +kernel, by decide +kernel, rfl⟩, fun q9 => ?_⟩
        refine rj_astore (l' := [(4, .ref q9), (0, .ref (ω.2.2 0)), (1, .int a0), (2, .int a1), (3, .ref (ω.2.2 438))]) dL_actAt_13 rfl (rj_bl rfl) rfl ?_
        refine rj_iconst (v := 1) dL_actAt_15 rfl (by decide) ?_
        exact rj_iret dL_actAt_16 rfl (Nat.le_of_ble_eq_true rfl) (Nat.le_of_ble_eq_true rfl) ⟨by unfold fL_actAt; rw [hf]; decide, rfl, by unfold mL_actAt; rw [hf]; rfl⟩
      · refine ⟨17, ⟨[(0, 10, 13, 19)], (0, 10, 17, 13), [], "java/lang/IllegalArgumentException", rfl, by
            intro z hz
            simp only [List.mem_cons, List.not_mem_nil, or_false] at hz
            subst hz
            exact ⟨by decide, "java/lang/IndexOutOfBoundsException", by decide +kernel, by decide +kernel⟩, by decide, by decide, by decide, by decide +kernel, by decide +kernel, rfl⟩, fun q9 => ?_⟩
        refine rj_astore (l' := [(4, .ref q9), (0, .ref (ω.2.2 0)), (1, .int a0), (2, .int a1), (3, .ref (ω.2.2 438))]) dL_actAt_17 rfl (rj_bl rfl) rfl ?_
        refine rj_iconst (v := 2) dL_actAt_19 rfl (by decide) ?_
        exact rj_iret dL_actAt_20 rfl (Nat.le_of_ble_eq_true rfl) (Nat.le_of_ble_eq_true rfl) ⟨by unfold fL_actAt; rw [hf]; decide, rfl, by unfold mL_actAt; rw [hf]; rfl⟩
    · intro v hv
      cases hv
noncomputable def fL_firstIn (μ : rj_M) (a0 : Int32) (a1 : Int32) (a2 : Int32) : Int32 := Sum.elim (fun _ => 0) (rj_hc ["java/lang/IndexOutOfBoundsException", "java/lang/IllegalArgumentException"] 1) (fX11_firstIn μ a0 a1 a2)
noncomputable def mL_firstIn (μ : rj_M) (a0 : Int32) (a1 : Int32) (a2 : Int32) : rj_M := Sum.elim (fun v => rj_pl μ 438 0 v.toInt64) (fun _ => μ) (fX11_firstIn μ a0 a1 a2)
set_option maxHeartbeats 4000000 in
set_option maxRecDepth 100000 in
theorem sL_firstIn {g : rj_G} {ω : rj_W} (hω : rj_ok ω) (μ : rj_M) (a0 : Int32) (a1 : Int32) (a2 : Int32) (hx : ∀ E : String, (fX11_firstIn μ a0 a1 a2) = .inr E → E ∈ ["java/lang/IndexOutOfBoundsException", "java/lang/IllegalArgumentException"]) : rj_Sp g yL_firstIn wsL_firstIn (rj_rm 8 2) [.ref (ω.2.2 0), .int a0, .int a1, .int a2, .ref (ω.2.2 438)] ω μ (rj_D (.inl (some (.int (fL_firstIn μ a0 a1 a2)))) ω (mL_firstIn μ a0 a1 a2)) := by
  refine rj_ofH (cc := cL_firstIn) (nL := 6) (ret := (some .int)) (hh := [(0, 12, 15, 19), (0, 12, 19, 13)]) (own := RL) (l0 := [(0, .ref (ω.2.2 0)), (1, .int a0), (2, .int a1), (3, .int a2), (4, .ref (ω.2.2 438))]) rfl (by decide +kernel) rfl (Nat.le_of_ble_eq_true rfl) rfl ?_
  have hM := (sX11_firstIn (g := g) (ω := ω) hω μ a0 a1 a2   )
  refine rj_aload 4 dL_firstIn_0 rfl rfl ?_
  refine rj_iconst (v := 0) dL_firstIn_2 rfl (by decide) ?_
  refine rj_aload_n 0 dL_firstIn_3 rfl rfl ?_
  refine rj_iload_n 1 dL_firstIn_4 rfl rfl ?_
  refine rj_iload_n 2 dL_firstIn_5 rfl rfl ?_
  refine rj_iload_n 3 dL_firstIn_6 rfl rfl ?_
  rcases hf : (fX11_firstIn μ a0 a1 a2) with v | E
  · rw [hf] at hM
    refine rj_cVh (rest := [.int 0, .ref (ω.2.2 438)]) hM gL_firstIn_X11_firstIn (rj_lt hω (k := 0) rfl) (rj_sh hω ly_0) rfl rfl hVX11_firstIn ⟨(Nat.le_of_ble_eq_true rfl), (Nat.le_of_ble_eq_true rfl)⟩ dL_firstIn_7 rfl rfl rfl (Nat.le_of_ble_eq_true rfl) rfl (Nat.le_of_ble_eq_true rfl) ?_ ?_
    · intro E hE
      cases hE
    · intro v0 hv
      cases hv
      refine rj_i2l dL_firstIn_10 rfl ?_
      refine rj_last dL_firstIn_11 rfl (rj_lt hω (k := 438) rfl) (rj_sh hω ly_438) (vp_in_nI (n := 0) (rj_bl rfl) (rj_bl rfl)) ?_
      refine rj_goto dL_firstIn_12 rfl ?_
      refine rj_iconst (v := 0) dL_firstIn_23 rfl (by decide) ?_
      exact rj_iret dL_firstIn_24 rfl (Nat.le_of_ble_eq_true rfl) (Nat.le_of_ble_eq_true rfl) ⟨by unfold fL_firstIn; rw [hf]; rfl, rfl, by unfold mL_firstIn; rw [hf]; rfl⟩
  · rw [hf] at hM
    have hE := hx E hf
    refine rj_cVh (rest := [.int 0, .ref (ω.2.2 438)]) hM gL_firstIn_X11_firstIn (rj_lt hω (k := 0) rfl) (rj_sh hω ly_0) rfl rfl hVX11_firstIn ⟨(Nat.le_of_ble_eq_true rfl), (Nat.le_of_ble_eq_true rfl)⟩ dL_firstIn_7 rfl rfl rfl (Nat.le_of_ble_eq_true rfl) rfl (Nat.le_of_ble_eq_true rfl) ?_ ?_
    · intro E0 hE0
      cases hE0
      simp only [List.mem_cons, List.not_mem_nil, or_false] at hE
      rcases hE with rfl | rfl
      · refine ⟨15, ⟨[], (0, 12, 15, 19), [(0, 12, 19, 13)], "java/lang/IndexOutOfBoundsException", rfl, (fun z hz => by cases hz), by decide, by decide, by decide, by decide +kernel, by decide +kernel, rfl⟩, fun q9 => ?_⟩
        refine rj_astore (l' := [(5, .ref q9), (0, .ref (ω.2.2 0)), (1, .int a0), (2, .int a1), (3, .int a2), (4, .ref (ω.2.2 438))]) dL_firstIn_15 rfl (rj_bl rfl) rfl ?_
        refine rj_iconst (v := 1) dL_firstIn_17 rfl (by decide) ?_
        exact rj_iret dL_firstIn_18 rfl (Nat.le_of_ble_eq_true rfl) (Nat.le_of_ble_eq_true rfl) ⟨by unfold fL_firstIn; rw [hf]; decide, rfl, by unfold mL_firstIn; rw [hf]; rfl⟩
      · refine ⟨19, ⟨[(0, 12, 15, 19)], (0, 12, 19, 13), [], "java/lang/IllegalArgumentException", rfl, by
            intro z hz
            simp only [List.mem_cons, List.not_mem_nil, or_false] at hz
            subst hz
            exact ⟨by decide, "java/lang/IndexOutOfBoundsException", by decide +kernel, by decide +kernel⟩, by decide, by decide, by decide, by decide +kernel, by decide +kernel, rfl⟩, fun q9 => ?_⟩
        refine rj_astore (l' := [(5, .ref q9), (0, .ref (ω.2.2 0)), (1, .int a0), (2, .int a1), (3, .int a2), (4, .ref (ω.2.2 438))]) dL_firstIn_19 rfl (rj_bl rfl) rfl ?_
        refine rj_iconst (v := 2) dL_firstIn_21 rfl (by decide) ?_
        exact rj_iret dL_firstIn_22 rfl (Nat.le_of_ble_eq_true rfl) (Nat.le_of_ble_eq_true rfl) ⟨by unfold fL_firstIn; rw [hf]; decide, rfl, by unfold mL_firstIn; rw [hf]; rfl⟩
    · intro v hv
      cases hv
noncomputable def fL_clash (μ : rj_M) (a0 : Int32) (a1 : Int32) : Int32 := Sum.elim (fun _ => 0) (rj_hc ["java/lang/IndexOutOfBoundsException", "java/lang/IllegalArgumentException"] 1) (fX11_clash μ a0 a1)
noncomputable def mL_clash (μ : rj_M) (a0 : Int32) (a1 : Int32) : rj_M := Sum.elim (fun v => rj_pl μ 438 0 (if v = 0 then 0 else 1)) (fun _ => μ) (fX11_clash μ a0 a1)
set_option maxHeartbeats 4000000 in
set_option maxRecDepth 100000 in
theorem sL_clash {g : rj_G} {ω : rj_W} (hω : rj_ok ω) (μ : rj_M) (a0 : Int32) (a1 : Int32) (hx : ∀ E : String, (fX11_clash μ a0 a1) = .inr E → E ∈ ["java/lang/IndexOutOfBoundsException", "java/lang/IllegalArgumentException"]) : rj_Sp g yL_clash wsL_clash (rj_rm 8 3) [.ref (ω.2.2 0), .int a0, .int a1, .ref (ω.2.2 438)] ω μ (rj_D (.inl (some (.int (fL_clash μ a0 a1)))) ω (mL_clash μ a0 a1)) := by
  refine rj_ofH (cc := cL_clash) (nL := 5) (ret := (some .int)) (hh := [(0, 17, 20, 19), (0, 17, 24, 13)]) (own := RL) (l0 := [(0, .ref (ω.2.2 0)), (1, .int a0), (2, .int a1), (3, .ref (ω.2.2 438))]) rfl (by decide +kernel) rfl (Nat.le_of_ble_eq_true rfl) rfl ?_
  have hM := (sX11_clash (g := g) (ω := ω) hω μ a0 a1   )
  refine rj_aload_n 3 dL_clash_0 rfl rfl ?_
  refine rj_iconst (v := 0) dL_clash_1 rfl (by decide) ?_
  refine rj_aload_n 0 dL_clash_2 rfl rfl ?_
  refine rj_iload_n 1 dL_clash_3 rfl rfl ?_
  refine rj_iload_n 2 dL_clash_4 rfl rfl ?_
  rcases hf : (fX11_clash μ a0 a1) with v | E
  · rw [hf] at hM
    refine rj_cVh (rest := [.int 0, .ref (ω.2.2 438)]) hM gL_clash_X11_clash (rj_lt hω (k := 0) rfl) (rj_sh hω ly_0) rfl rfl hVX11_clash ⟨(Nat.le_of_ble_eq_true rfl), (Nat.le_of_ble_eq_true rfl)⟩ dL_clash_5 rfl rfl rfl (Nat.le_of_ble_eq_true rfl) rfl (Nat.le_of_ble_eq_true rfl) ?_ ?_
    · intro E hE
      cases hE
    · intro v0 hv
      cases hv
      refine rj_if_eq dL_clash_8 rfl rfl (fun h1 => ?_) (fun h1 => ?_)
      · refine rj_lconst (v := 0) dL_clash_15 rfl (by decide) ?_
        refine rj_last dL_clash_16 rfl (rj_lt hω (k := 438) rfl) (rj_sh hω ly_438) (vp_in_nI (n := 0) (rj_bl rfl) (rj_bl rfl)) ?_
        refine rj_goto dL_clash_17 rfl ?_
        refine rj_iconst (v := 0) dL_clash_28 rfl (by decide) ?_
        exact rj_iret dL_clash_29 rfl (Nat.le_of_ble_eq_true rfl) (Nat.le_of_ble_eq_true rfl) ⟨by unfold fL_clash; rw [hf]; rfl, rfl, by unfold mL_clash; rw [hf]; simp only [Sum.elim_inl]; rw [if_pos h1]; rfl⟩
      · refine rj_lconst (v := 1) dL_clash_11 rfl (by decide) ?_
        refine rj_goto dL_clash_12 rfl ?_
        refine rj_last dL_clash_16 rfl (rj_lt hω (k := 438) rfl) (rj_sh hω ly_438) (vp_in_nI (n := 0) (rj_bl rfl) (rj_bl rfl)) ?_
        refine rj_goto dL_clash_17 rfl ?_
        refine rj_iconst (v := 0) dL_clash_28 rfl (by decide) ?_
        exact rj_iret dL_clash_29 rfl (Nat.le_of_ble_eq_true rfl) (Nat.le_of_ble_eq_true rfl) ⟨by unfold fL_clash; rw [hf]; rfl, rfl, by unfold mL_clash; rw [hf]; simp only [Sum.elim_inl]; rw [if_neg h1]; rfl⟩
  · rw [hf] at hM
    have hE := hx E hf
    refine rj_cVh (rest := [.int 0, .ref (ω.2.2 438)]) hM gL_clash_X11_clash (rj_lt hω (k := 0) rfl) (rj_sh hω ly_0) rfl rfl hVX11_clash ⟨(Nat.le_of_ble_eq_true rfl), (Nat.le_of_ble_eq_true rfl)⟩ dL_clash_5 rfl rfl rfl (Nat.le_of_ble_eq_true rfl) rfl (Nat.le_of_ble_eq_true rfl) ?_ ?_
    · intro E0 hE0
      cases hE0
      simp only [List.mem_cons, List.not_mem_nil, or_false] at hE
      rcases hE with rfl | rfl
      · refine ⟨20, ⟨[], (0, 17, 20, 19), [(0, 17, 24, 13)], "java/lang/IndexOutOfBoundsException", rfl, (fun z hz => by cases hz), by decide, by decide, by decide, by decide +kernel, by decide +kernel, rfl⟩, fun q9 => ?_⟩
        refine rj_astore (l' := [(4, .ref q9), (0, .ref (ω.2.2 0)), (1, .int a0), (2, .int a1), (3, .ref (ω.2.2 438))]) dL_clash_20 rfl (rj_bl rfl) rfl ?_
        refine rj_iconst (v := 1) dL_clash_22 rfl (by decide) ?_
        exact rj_iret dL_clash_23 rfl (Nat.le_of_ble_eq_true rfl) (Nat.le_of_ble_eq_true rfl) ⟨by unfold fL_clash; rw [hf]; decide, rfl, by unfold mL_clash; rw [hf]; rfl⟩
      · refine ⟨24, ⟨[(0, 17, 20, 19)], (0, 17, 24, 13), [], "java/lang/IllegalArgumentException", rfl, by
            intro z hz
            simp only [List.mem_cons, List.not_mem_nil, or_false] at hz
            subst hz
            exact ⟨by decide, "java/lang/IndexOutOfBoundsException", by decide +kernel, by decide +kernel⟩, by decide, by decide, by decide, by decide +kernel, by decide +kernel, rfl⟩, fun q9 => ?_⟩
        refine rj_astore (l' := [(4, .ref q9), (0, .ref (ω.2.2 0)), (1, .int a0), (2, .int a1), (3, .ref (ω.2.2 438))]) dL_clash_24 rfl (rj_bl rfl) rfl ?_
        refine rj_iconst (v := 2) dL_clash_26 rfl (by decide) ?_
        exact rj_iret dL_clash_27 rfl (Nat.le_of_ble_eq_true rfl) (Nat.le_of_ble_eq_true rfl) ⟨by unfold fL_clash; rw [hf]; decide, rfl, by unfold mL_clash; rw [hf]; rfl⟩
    · intro v hv
      cases hv
noncomputable def fL_evening (μ : rj_M) (a0 : Int32) (a1 : Int32) : Int32 := Sum.elim (fun _ => 0) (rj_hc ["java/lang/IndexOutOfBoundsException"] 1) (fX11_evening μ a0 a1)
noncomputable def mL_evening (μ : rj_M) (a0 : Int32) (a1 : Int32) : rj_M := Sum.elim (fun v => rj_pl (mX11_evening μ a0 a1) 438 0 v.toInt64) (fun _ => (mX11_evening μ a0 a1)) (fX11_evening μ a0 a1)
set_option maxHeartbeats 4000000 in
set_option maxRecDepth 100000 in
theorem sL_evening {g : rj_G} {ω : rj_W} (hω : rj_ok ω) (μ : rj_M) (a0 : Int32) (a1 : Int32) (hx : ∀ E : String, (fX11_evening μ a0 a1) = .inr E → E ∈ ["java/lang/IndexOutOfBoundsException"]) : rj_Sp g yL_evening wsL_evening (rj_rm 8 2) [.ref (ω.2.2 0), .int a0, .int a1, .ref (ω.2.2 438)] ω μ (rj_D (.inl (some (.int (fL_evening μ a0 a1)))) ω (mL_evening μ a0 a1)) := by
  refine rj_ofH (cc := cL_evening) (nL := 5) (ret := (some .int)) (hh := [(0, 10, 13, 19)]) (own := RL) (l0 := [(0, .ref (ω.2.2 0)), (1, .int a0), (2, .int a1), (3, .ref (ω.2.2 438))]) rfl (by decide +kernel) rfl (Nat.le_of_ble_eq_true rfl) rfl ?_
  have hM := (sX11_evening (g := g) (ω := ω) hω μ a0 a1   )
  refine rj_aload_n 3 dL_evening_0 rfl rfl ?_
  refine rj_iconst (v := 0) dL_evening_1 rfl (by decide) ?_
  refine rj_aload_n 0 dL_evening_2 rfl rfl ?_
  refine rj_iload_n 1 dL_evening_3 rfl rfl ?_
  refine rj_iload_n 2 dL_evening_4 rfl rfl ?_
  rcases hf : (fX11_evening μ a0 a1) with v | E
  · rw [hf] at hM
    refine rj_cVh (rest := [.int 0, .ref (ω.2.2 438)]) hM gL_evening_X11_evening (rj_lt hω (k := 0) rfl) (rj_sh hω ly_0) rfl rfl hVX11_evening ⟨(Nat.le_of_ble_eq_true rfl), (Nat.le_of_ble_eq_true rfl)⟩ dL_evening_5 rfl rfl rfl (Nat.le_of_ble_eq_true rfl) rfl (Nat.le_of_ble_eq_true rfl) ?_ ?_
    · intro E hE
      cases hE
    · intro v0 hv
      cases hv
      refine rj_i2l dL_evening_8 rfl ?_
      refine rj_last dL_evening_9 rfl (rj_lt hω (k := 438) rfl) (rj_sh hω ly_438) (vp_in_nI (n := 0) (rj_bl rfl) (rj_bl rfl)) ?_
      refine rj_goto dL_evening_10 rfl ?_
      refine rj_iconst (v := 0) dL_evening_17 rfl (by decide) ?_
      exact rj_iret dL_evening_18 rfl (Nat.le_of_ble_eq_true rfl) (Nat.le_of_ble_eq_true rfl) ⟨by unfold fL_evening; rw [hf]; rfl, rfl, by unfold mL_evening; rw [hf]; rfl⟩
  · rw [hf] at hM
    have hE := hx E hf
    refine rj_cVh (rest := [.int 0, .ref (ω.2.2 438)]) hM gL_evening_X11_evening (rj_lt hω (k := 0) rfl) (rj_sh hω ly_0) rfl rfl hVX11_evening ⟨(Nat.le_of_ble_eq_true rfl), (Nat.le_of_ble_eq_true rfl)⟩ dL_evening_5 rfl rfl rfl (Nat.le_of_ble_eq_true rfl) rfl (Nat.le_of_ble_eq_true rfl) ?_ ?_
    · intro E0 hE0
      cases hE0
      simp only [List.mem_cons, List.not_mem_nil, or_false] at hE
      subst hE
      refine ⟨13, ⟨[], (0, 10, 13, 19), [], "java/lang/IndexOutOfBoundsException", rfl, (fun z hz => by cases hz), by decide, by decide, by decide, by decide +kernel, by decide +kernel, rfl⟩, fun q9 => ?_⟩
      refine rj_astore (l' := [(4, .ref q9), (0, .ref (ω.2.2 0)), (1, .int a0), (2, .int a1), (3, .ref (ω.2.2 438))]) dL_evening_13 rfl (rj_bl rfl) rfl ?_
      refine rj_iconst (v := 1) dL_evening_15 rfl (by decide) ?_
      exact rj_iret dL_evening_16 rfl (Nat.le_of_ble_eq_true rfl) (Nat.le_of_ble_eq_true rfl) ⟨by unfold fL_evening; rw [hf]; decide, rfl, by unfold mL_evening; rw [hf]; rfl⟩
    · intro v hv
      cases hv
noncomputable def fL_eveningAct (μ : rj_M) (a0 : Int32) (a1 : Int32) (a2 : Int32) : Int32 := Sum.elim (fun _ => 0) (rj_hc ["java/lang/IndexOutOfBoundsException", "java/util/NoSuchElementException"] 1) (fX11_eveningAct μ a0 a1 a2)
noncomputable def mL_eveningAct (μ : rj_M) (a0 : Int32) (a1 : Int32) (a2 : Int32) : rj_M := Sum.elim (fun v => rj_pl (mX11_eveningAct μ a0 a1 a2) 438 0 v.toInt64) (fun _ => (mX11_eveningAct μ a0 a1 a2)) (fX11_eveningAct μ a0 a1 a2)
set_option maxHeartbeats 4000000 in
set_option maxRecDepth 100000 in
theorem sL_eveningAct {g : rj_G} {ω : rj_W} (hω : rj_ok ω) (μ : rj_M) (a0 : Int32) (a1 : Int32) (a2 : Int32) (hx : ∀ E : String, (fX11_eveningAct μ a0 a1 a2) = .inr E → E ∈ ["java/lang/IndexOutOfBoundsException", "java/util/NoSuchElementException"]) : rj_Sp g yL_eveningAct wsL_eveningAct (rj_rm 8 3) [.ref (ω.2.2 0), .int a0, .int a1, .int a2, .ref (ω.2.2 438)] ω μ (rj_D (.inl (some (.int (fL_eveningAct μ a0 a1 a2)))) ω (mL_eveningAct μ a0 a1 a2)) := by
  refine rj_ofH (cc := cL_eveningAct) (nL := 6) (ret := (some .int)) (hh := [(0, 12, 15, 19), (0, 12, 19, 85)]) (own := RL) (l0 := [(0, .ref (ω.2.2 0)), (1, .int a0), (2, .int a1), (3, .int a2), (4, .ref (ω.2.2 438))]) rfl (by decide +kernel) rfl (Nat.le_of_ble_eq_true rfl) rfl ?_
  have hM := (sX11_eveningAct (g := g) (ω := ω) hω μ a0 a1 a2   )
  refine rj_aload 4 dL_eveningAct_0 rfl rfl ?_
  refine rj_iconst (v := 0) dL_eveningAct_2 rfl (by decide) ?_
  refine rj_aload_n 0 dL_eveningAct_3 rfl rfl ?_
  refine rj_iload_n 1 dL_eveningAct_4 rfl rfl ?_
  refine rj_iload_n 2 dL_eveningAct_5 rfl rfl ?_
  refine rj_iload_n 3 dL_eveningAct_6 rfl rfl ?_
  rcases hf : (fX11_eveningAct μ a0 a1 a2) with v | E
  · rw [hf] at hM
    refine rj_cVh (rest := [.int 0, .ref (ω.2.2 438)]) hM gL_eveningAct_X11_eveningAct (rj_lt hω (k := 0) rfl) (rj_sh hω ly_0) rfl rfl hVX11_eveningAct ⟨(Nat.le_of_ble_eq_true rfl), (Nat.le_of_ble_eq_true rfl)⟩ dL_eveningAct_7 rfl rfl rfl (Nat.le_of_ble_eq_true rfl) rfl (Nat.le_of_ble_eq_true rfl) ?_ ?_
    · intro E hE
      cases hE
    · intro v0 hv
      cases hv
      refine rj_i2l dL_eveningAct_10 rfl ?_
      refine rj_last dL_eveningAct_11 rfl (rj_lt hω (k := 438) rfl) (rj_sh hω ly_438) (vp_in_nI (n := 0) (rj_bl rfl) (rj_bl rfl)) ?_
      refine rj_goto dL_eveningAct_12 rfl ?_
      refine rj_iconst (v := 0) dL_eveningAct_23 rfl (by decide) ?_
      exact rj_iret dL_eveningAct_24 rfl (Nat.le_of_ble_eq_true rfl) (Nat.le_of_ble_eq_true rfl) ⟨by unfold fL_eveningAct; rw [hf]; rfl, rfl, by unfold mL_eveningAct; rw [hf]; rfl⟩
  · rw [hf] at hM
    have hE := hx E hf
    refine rj_cVh (rest := [.int 0, .ref (ω.2.2 438)]) hM gL_eveningAct_X11_eveningAct (rj_lt hω (k := 0) rfl) (rj_sh hω ly_0) rfl rfl hVX11_eveningAct ⟨(Nat.le_of_ble_eq_true rfl), (Nat.le_of_ble_eq_true rfl)⟩ dL_eveningAct_7 rfl rfl rfl (Nat.le_of_ble_eq_true rfl) rfl (Nat.le_of_ble_eq_true rfl) ?_ ?_
    · intro E0 hE0
      cases hE0
      simp only [List.mem_cons, List.not_mem_nil, or_false] at hE
      rcases hE with rfl | rfl
      · refine ⟨15, ⟨[], (0, 12, 15, 19), [(0, 12, 19, 85)], "java/lang/IndexOutOfBoundsException", rfl, (fun z hz => by cases hz), by decide, by decide, by decide, by decide +kernel, by decide +kernel, rfl⟩, fun q9 => ?_⟩
        refine rj_astore (l' := [(5, .ref q9), (0, .ref (ω.2.2 0)), (1, .int a0), (2, .int a1), (3, .int a2), (4, .ref (ω.2.2 438))]) dL_eveningAct_15 rfl (rj_bl rfl) rfl ?_
        refine rj_iconst (v := 1) dL_eveningAct_17 rfl (by decide) ?_
        exact rj_iret dL_eveningAct_18 rfl (Nat.le_of_ble_eq_true rfl) (Nat.le_of_ble_eq_true rfl) ⟨by unfold fL_eveningAct; rw [hf]; decide, rfl, by unfold mL_eveningAct; rw [hf]; rfl⟩
      · refine ⟨19, ⟨[(0, 12, 15, 19)], (0, 12, 19, 85), [], "java/util/NoSuchElementException", rfl, by
            intro z hz
            simp only [List.mem_cons, List.not_mem_nil, or_false] at hz
            subst hz
            exact ⟨by decide, "java/lang/IndexOutOfBoundsException", by decide +kernel, by decide +kernel⟩, by decide, by decide, by decide, by decide +kernel, by decide +kernel, rfl⟩, fun q9 => ?_⟩
        refine rj_astore (l' := [(5, .ref q9), (0, .ref (ω.2.2 0)), (1, .int a0), (2, .int a1), (3, .int a2), (4, .ref (ω.2.2 438))]) dL_eveningAct_19 rfl (rj_bl rfl) rfl ?_
        refine rj_iconst (v := 2) dL_eveningAct_21 rfl (by decide) ?_
        exact rj_iret dL_eveningAct_22 rfl (Nat.le_of_ble_eq_true rfl) (Nat.le_of_ble_eq_true rfl) ⟨by unfold fL_eveningAct; rw [hf]; decide, rfl, by unfold mL_eveningAct; rw [hf]; rfl⟩
    · intro v hv
      cases hv
noncomputable def fL_price (μ : rj_M) (a0 : Int32) (a1 : Int32) : Int32 := Sum.elim (fun _ => 0) (rj_hc ["java/lang/IndexOutOfBoundsException"] 1) (fX11_price μ a0 a1)
noncomputable def mL_price (μ : rj_M) (a0 : Int32) (a1 : Int32) : rj_M := Sum.elim (fun v => rj_pl (mX11_price μ a0 a1) 438 0 v.toInt64) (fun _ => (mX11_price μ a0 a1)) (fX11_price μ a0 a1)
set_option maxHeartbeats 4000000 in
set_option maxRecDepth 100000 in
theorem sL_price {g : rj_G} {ω : rj_W} (hω : rj_ok ω) (μ : rj_M) (a0 : Int32) (a1 : Int32) (hx : ∀ E : String, (fX11_price μ a0 a1) = .inr E → E ∈ ["java/lang/IndexOutOfBoundsException"]) : rj_Sp g yL_price wsL_price (rj_rm 8 2) [.ref (ω.2.2 0), .int a0, .int a1, .ref (ω.2.2 438)] ω μ (rj_D (.inl (some (.int (fL_price μ a0 a1)))) ω (mL_price μ a0 a1)) := by
  refine rj_ofH (cc := cL_price) (nL := 5) (ret := (some .int)) (hh := [(0, 10, 13, 19)]) (own := RL) (l0 := [(0, .ref (ω.2.2 0)), (1, .int a0), (2, .int a1), (3, .ref (ω.2.2 438))]) rfl (by decide +kernel) rfl (Nat.le_of_ble_eq_true rfl) rfl ?_
  have hM := (sX11_price (g := g) (ω := ω) hω μ a0 a1   )
  refine rj_aload_n 3 dL_price_0 rfl rfl ?_
  refine rj_iconst (v := 0) dL_price_1 rfl (by decide) ?_
  refine rj_aload_n 0 dL_price_2 rfl rfl ?_
  refine rj_iload_n 1 dL_price_3 rfl rfl ?_
  refine rj_iload_n 2 dL_price_4 rfl rfl ?_
  rcases hf : (fX11_price μ a0 a1) with v | E
  · rw [hf] at hM
    refine rj_cVh (rest := [.int 0, .ref (ω.2.2 438)]) hM gL_price_X11_price (rj_lt hω (k := 0) rfl) (rj_sh hω ly_0) rfl rfl hVX11_price ⟨(Nat.le_of_ble_eq_true rfl), (Nat.le_of_ble_eq_true rfl)⟩ dL_price_5 rfl rfl rfl (Nat.le_of_ble_eq_true rfl) rfl (Nat.le_of_ble_eq_true rfl) ?_ ?_
    · intro E hE
      cases hE
    · intro v0 hv
      cases hv
      refine rj_i2l dL_price_8 rfl ?_
      refine rj_last dL_price_9 rfl (rj_lt hω (k := 438) rfl) (rj_sh hω ly_438) (vp_in_nI (n := 0) (rj_bl rfl) (rj_bl rfl)) ?_
      refine rj_goto dL_price_10 rfl ?_
      refine rj_iconst (v := 0) dL_price_17 rfl (by decide) ?_
      exact rj_iret dL_price_18 rfl (Nat.le_of_ble_eq_true rfl) (Nat.le_of_ble_eq_true rfl) ⟨by unfold fL_price; rw [hf]; rfl, rfl, by unfold mL_price; rw [hf]; rfl⟩
  · rw [hf] at hM
    have hE := hx E hf
    refine rj_cVh (rest := [.int 0, .ref (ω.2.2 438)]) hM gL_price_X11_price (rj_lt hω (k := 0) rfl) (rj_sh hω ly_0) rfl rfl hVX11_price ⟨(Nat.le_of_ble_eq_true rfl), (Nat.le_of_ble_eq_true rfl)⟩ dL_price_5 rfl rfl rfl (Nat.le_of_ble_eq_true rfl) rfl (Nat.le_of_ble_eq_true rfl) ?_ ?_
    · intro E0 hE0
      cases hE0
      simp only [List.mem_cons, List.not_mem_nil, or_false] at hE
      subst hE
      refine ⟨13, ⟨[], (0, 10, 13, 19), [], "java/lang/IndexOutOfBoundsException", rfl, (fun z hz => by cases hz), by decide, by decide, by decide, by decide +kernel, by decide +kernel, rfl⟩, fun q9 => ?_⟩
      refine rj_astore (l' := [(4, .ref q9), (0, .ref (ω.2.2 0)), (1, .int a0), (2, .int a1), (3, .ref (ω.2.2 438))]) dL_price_13 rfl (rj_bl rfl) rfl ?_
      refine rj_iconst (v := 1) dL_price_15 rfl (by decide) ?_
      exact rj_iret dL_price_16 rfl (Nat.le_of_ble_eq_true rfl) (Nat.le_of_ble_eq_true rfl) ⟨by unfold fL_price; rw [hf]; decide, rfl, by unfold mL_price; rw [hf]; rfl⟩
    · intro v hv
      cases hv
noncomputable def fL_listeners (μ : rj_M) (a0 : Int32) (a1 : Int32) : Int32 := Sum.elim (fun _ => 0) (rj_hc ["java/lang/IndexOutOfBoundsException", "java/lang/IllegalArgumentException"] 1) (fX11_listeners μ a0 a1)
noncomputable def mL_listeners (μ : rj_M) (a0 : Int32) (a1 : Int32) : rj_M := Sum.elim (fun v => rj_pl (mX11_listeners μ a0 a1) 438 0 v.toInt64) (fun _ => (mX11_listeners μ a0 a1)) (fX11_listeners μ a0 a1)
set_option maxHeartbeats 4000000 in
set_option maxRecDepth 100000 in
theorem sL_listeners {g : rj_G} {ω : rj_W} (hω : rj_ok ω) (μ : rj_M) (a0 : Int32) (a1 : Int32) (hx : ∀ E : String, (fX11_listeners μ a0 a1) = .inr E → E ∈ ["java/lang/IndexOutOfBoundsException", "java/lang/IllegalArgumentException"]) : rj_Sp g yL_listeners wsL_listeners (rj_rm 8 2) [.ref (ω.2.2 0), .int a0, .int a1, .ref (ω.2.2 438)] ω μ (rj_D (.inl (some (.int (fL_listeners μ a0 a1)))) ω (mL_listeners μ a0 a1)) := by
  refine rj_ofH (cc := cL_listeners) (nL := 5) (ret := (some .int)) (hh := [(0, 10, 13, 19), (0, 10, 17, 13)]) (own := RL) (l0 := [(0, .ref (ω.2.2 0)), (1, .int a0), (2, .int a1), (3, .ref (ω.2.2 438))]) rfl (by decide +kernel) rfl (Nat.le_of_ble_eq_true rfl) rfl ?_
  have hM := (sX11_listeners (g := g) (ω := ω) hω μ a0 a1   )
  refine rj_aload_n 3 dL_listeners_0 rfl rfl ?_
  refine rj_iconst (v := 0) dL_listeners_1 rfl (by decide) ?_
  refine rj_aload_n 0 dL_listeners_2 rfl rfl ?_
  refine rj_iload_n 1 dL_listeners_3 rfl rfl ?_
  refine rj_iload_n 2 dL_listeners_4 rfl rfl ?_
  rcases hf : (fX11_listeners μ a0 a1) with v | E
  · rw [hf] at hM
    refine rj_cVh (rest := [.int 0, .ref (ω.2.2 438)]) hM gL_listeners_X11_listeners (rj_lt hω (k := 0) rfl) (rj_sh hω ly_0) rfl rfl hVX11_listeners ⟨(Nat.le_of_ble_eq_true rfl), (Nat.le_of_ble_eq_true rfl)⟩ dL_listeners_5 rfl rfl rfl (Nat.le_of_ble_eq_true rfl) rfl (Nat.le_of_ble_eq_true rfl) ?_ ?_
    · intro E hE
      cases hE
    · intro v0 hv
      cases hv
      refine rj_i2l dL_listeners_8 rfl ?_
      refine rj_last dL_listeners_9 rfl (rj_lt hω (k := 438) rfl) (rj_sh hω ly_438) (vp_in_nI (n := 0) (rj_bl rfl) (rj_bl rfl)) ?_
      refine rj_goto dL_listeners_10 rfl ?_
      refine rj_iconst (v := 0) dL_listeners_21 rfl (by decide) ?_
      exact rj_iret dL_listeners_22 rfl (Nat.le_of_ble_eq_true rfl) (Nat.le_of_ble_eq_true rfl) ⟨by unfold fL_listeners; rw [hf]; rfl, rfl, by unfold mL_listeners; rw [hf]; rfl⟩
  · rw [hf] at hM
    have hE := hx E hf
    refine rj_cVh (rest := [.int 0, .ref (ω.2.2 438)]) hM gL_listeners_X11_listeners (rj_lt hω (k := 0) rfl) (rj_sh hω ly_0) rfl rfl hVX11_listeners ⟨(Nat.le_of_ble_eq_true rfl), (Nat.le_of_ble_eq_true rfl)⟩ dL_listeners_5 rfl rfl rfl (Nat.le_of_ble_eq_true rfl) rfl (Nat.le_of_ble_eq_true rfl) ?_ ?_
    · intro E0 hE0
      cases hE0
      simp only [List.mem_cons, List.not_mem_nil, or_false] at hE
      rcases hE with rfl | rfl
      · refine ⟨13, ⟨[], (0, 10, 13, 19), [(0, 10, 17, 13)], "java/lang/IndexOutOfBoundsException", rfl, (fun z hz => by cases hz), by decide, by decide, by decide, by decide +kernel, by decide +kernel, rfl⟩, fun q9 => ?_⟩
        refine rj_astore (l' := [(4, .ref q9), (0, .ref (ω.2.2 0)), (1, .int a0), (2, .int a1), (3, .ref (ω.2.2 438))]) dL_listeners_13 rfl (rj_bl rfl) rfl ?_
        refine rj_iconst (v := 1) dL_listeners_15 rfl (by decide) ?_
        exact rj_iret dL_listeners_16 rfl (Nat.le_of_ble_eq_true rfl) (Nat.le_of_ble_eq_true rfl) ⟨by unfold fL_listeners; rw [hf]; decide, rfl, by unfold mL_listeners; rw [hf]; rfl⟩
      · refine ⟨17, ⟨[(0, 10, 13, 19)], (0, 10, 17, 13), [], "java/lang/IllegalArgumentException", rfl, by
            intro z hz
            simp only [List.mem_cons, List.not_mem_nil, or_false] at hz
            subst hz
            exact ⟨by decide, "java/lang/IndexOutOfBoundsException", by decide +kernel, by decide +kernel⟩, by decide, by decide, by decide, by decide +kernel, by decide +kernel, rfl⟩, fun q9 => ?_⟩
        refine rj_astore (l' := [(4, .ref q9), (0, .ref (ω.2.2 0)), (1, .int a0), (2, .int a1), (3, .ref (ω.2.2 438))]) dL_listeners_17 rfl (rj_bl rfl) rfl ?_
        refine rj_iconst (v := 2) dL_listeners_19 rfl (by decide) ?_
        exact rj_iret dL_listeners_20 rfl (Nat.le_of_ble_eq_true rfl) (Nat.le_of_ble_eq_true rfl) ⟨by unfold fL_listeners; rw [hf]; decide, rfl, by unfold mL_listeners; rw [hf]; rfl⟩
    · intro v hv
      cases hv
noncomputable def fL_line (μ : rj_M) (a0 : Int32) : Int32 := Sum.elim (fun _ => 0) (rj_hc ["java/lang/IndexOutOfBoundsException"] 1) (fX11_line μ a0)
noncomputable def mL_line (μ : rj_M) (a0 : Int32) : rj_M := Sum.elim (fun v => rj_pl μ 438 0 v.toInt64) (fun _ => μ) (fX11_line μ a0)
set_option maxHeartbeats 4000000 in
set_option maxRecDepth 100000 in
theorem sL_line {g : rj_G} {ω : rj_W} (hω : rj_ok ω) (μ : rj_M) (a0 : Int32) (hx : ∀ E : String, (fX11_line μ a0) = .inr E → E ∈ ["java/lang/IndexOutOfBoundsException"]) : rj_Sp g yL_line wsL_line (rj_rm 8 1) [.ref (ω.2.2 0), .int a0, .ref (ω.2.2 438)] ω μ (rj_D (.inl (some (.int (fL_line μ a0)))) ω (mL_line μ a0)) := by
  refine rj_ofH (cc := cL_line) (nL := 4) (ret := (some .int)) (hh := [(0, 9, 12, 19)]) (own := RL) (l0 := [(0, .ref (ω.2.2 0)), (1, .int a0), (2, .ref (ω.2.2 438))]) rfl (by decide +kernel) rfl (Nat.le_of_ble_eq_true rfl) rfl ?_
  have hM := (sX11_line (g := g) (ω := ω) hω μ a0   )
  refine rj_aload_n 2 dL_line_0 rfl rfl ?_
  refine rj_iconst (v := 0) dL_line_1 rfl (by decide) ?_
  refine rj_aload_n 0 dL_line_2 rfl rfl ?_
  refine rj_iload_n 1 dL_line_3 rfl rfl ?_
  rcases hf : (fX11_line μ a0) with v | E
  · rw [hf] at hM
    refine rj_cVh (rest := [.int 0, .ref (ω.2.2 438)]) hM gL_line_X11_line (rj_lt hω (k := 0) rfl) (rj_sh hω ly_0) rfl rfl hVX11_line ⟨(Nat.le_of_ble_eq_true rfl), (Nat.le_of_ble_eq_true rfl)⟩ dL_line_4 rfl rfl rfl (Nat.le_of_ble_eq_true rfl) rfl (Nat.le_of_ble_eq_true rfl) ?_ ?_
    · intro E hE
      cases hE
    · intro v0 hv
      cases hv
      refine rj_i2l dL_line_7 rfl ?_
      refine rj_last dL_line_8 rfl (rj_lt hω (k := 438) rfl) (rj_sh hω ly_438) (vp_in_nI (n := 0) (rj_bl rfl) (rj_bl rfl)) ?_
      refine rj_goto dL_line_9 rfl ?_
      refine rj_iconst (v := 0) dL_line_15 rfl (by decide) ?_
      exact rj_iret dL_line_16 rfl (Nat.le_of_ble_eq_true rfl) (Nat.le_of_ble_eq_true rfl) ⟨by unfold fL_line; rw [hf]; rfl, rfl, by unfold mL_line; rw [hf]; rfl⟩
  · rw [hf] at hM
    have hE := hx E hf
    refine rj_cVh (rest := [.int 0, .ref (ω.2.2 438)]) hM gL_line_X11_line (rj_lt hω (k := 0) rfl) (rj_sh hω ly_0) rfl rfl hVX11_line ⟨(Nat.le_of_ble_eq_true rfl), (Nat.le_of_ble_eq_true rfl)⟩ dL_line_4 rfl rfl rfl (Nat.le_of_ble_eq_true rfl) rfl (Nat.le_of_ble_eq_true rfl) ?_ ?_
    · intro E0 hE0
      cases hE0
      simp only [List.mem_cons, List.not_mem_nil, or_false] at hE
      subst hE
      refine ⟨12, ⟨[], (0, 9, 12, 19), [], "java/lang/IndexOutOfBoundsException", rfl, (fun z hz => by cases hz), by decide, by decide, by decide, by decide +kernel, by decide +kernel, rfl⟩, fun q9 => ?_⟩
      refine rj_astore_n (l' := [(3, .ref q9), (0, .ref (ω.2.2 0)), (1, .int a0), (2, .ref (ω.2.2 438))]) dL_line_12 rfl (rj_bl rfl) rfl ?_
      refine rj_iconst (v := 1) dL_line_13 rfl (by decide) ?_
      exact rj_iret dL_line_14 rfl (Nat.le_of_ble_eq_true rfl) (Nat.le_of_ble_eq_true rfl) ⟨by unfold fL_line; rw [hf]; decide, rfl, by unfold mL_line; rw [hf]; rfl⟩
    · intro v hv
      cases hv
noncomputable def fL_front (μ : rj_M) (a0 : Int32) (a1 : Int32) : Int32 := Sum.elim (fun _ => 0) (rj_hc ["java/lang/IndexOutOfBoundsException", "java/util/NoSuchElementException"] 1) (fX11_front μ a0 a1)
noncomputable def mL_front (μ : rj_M) (a0 : Int32) (a1 : Int32) : rj_M := Sum.elim (fun v => rj_pl μ 438 0 v.toInt64) (fun _ => μ) (fX11_front μ a0 a1)
set_option maxHeartbeats 4000000 in
set_option maxRecDepth 100000 in
theorem sL_front {g : rj_G} {ω : rj_W} (hω : rj_ok ω) (μ : rj_M) (a0 : Int32) (a1 : Int32) (hx : ∀ E : String, (fX11_front μ a0 a1) = .inr E → E ∈ ["java/lang/IndexOutOfBoundsException", "java/util/NoSuchElementException"]) : rj_Sp g yL_front wsL_front (rj_rm 8 2) [.ref (ω.2.2 0), .int a0, .int a1, .ref (ω.2.2 438)] ω μ (rj_D (.inl (some (.int (fL_front μ a0 a1)))) ω (mL_front μ a0 a1)) := by
  refine rj_ofH (cc := cL_front) (nL := 5) (ret := (some .int)) (hh := [(0, 10, 13, 19), (0, 10, 17, 85)]) (own := RL) (l0 := [(0, .ref (ω.2.2 0)), (1, .int a0), (2, .int a1), (3, .ref (ω.2.2 438))]) rfl (by decide +kernel) rfl (Nat.le_of_ble_eq_true rfl) rfl ?_
  have hM := (sX11_front (g := g) (ω := ω) hω μ a0 a1   )
  refine rj_aload_n 3 dL_front_0 rfl rfl ?_
  refine rj_iconst (v := 0) dL_front_1 rfl (by decide) ?_
  refine rj_aload_n 0 dL_front_2 rfl rfl ?_
  refine rj_iload_n 1 dL_front_3 rfl rfl ?_
  refine rj_iload_n 2 dL_front_4 rfl rfl ?_
  rcases hf : (fX11_front μ a0 a1) with v | E
  · rw [hf] at hM
    refine rj_cVh (rest := [.int 0, .ref (ω.2.2 438)]) hM gL_front_X11_front (rj_lt hω (k := 0) rfl) (rj_sh hω ly_0) rfl rfl hVX11_front ⟨(Nat.le_of_ble_eq_true rfl), (Nat.le_of_ble_eq_true rfl)⟩ dL_front_5 rfl rfl rfl (Nat.le_of_ble_eq_true rfl) rfl (Nat.le_of_ble_eq_true rfl) ?_ ?_
    · intro E hE
      cases hE
    · intro v0 hv
      cases hv
      refine rj_i2l dL_front_8 rfl ?_
      refine rj_last dL_front_9 rfl (rj_lt hω (k := 438) rfl) (rj_sh hω ly_438) (vp_in_nI (n := 0) (rj_bl rfl) (rj_bl rfl)) ?_
      refine rj_goto dL_front_10 rfl ?_
      refine rj_iconst (v := 0) dL_front_21 rfl (by decide) ?_
      exact rj_iret dL_front_22 rfl (Nat.le_of_ble_eq_true rfl) (Nat.le_of_ble_eq_true rfl) ⟨by unfold fL_front; rw [hf]; rfl, rfl, by unfold mL_front; rw [hf]; rfl⟩
  · rw [hf] at hM
    have hE := hx E hf
    refine rj_cVh (rest := [.int 0, .ref (ω.2.2 438)]) hM gL_front_X11_front (rj_lt hω (k := 0) rfl) (rj_sh hω ly_0) rfl rfl hVX11_front ⟨(Nat.le_of_ble_eq_true rfl), (Nat.le_of_ble_eq_true rfl)⟩ dL_front_5 rfl rfl rfl (Nat.le_of_ble_eq_true rfl) rfl (Nat.le_of_ble_eq_true rfl) ?_ ?_
    · intro E0 hE0
      cases hE0
      simp only [List.mem_cons, List.not_mem_nil, or_false] at hE
      rcases hE with rfl | rfl
      · refine ⟨13, ⟨[], (0, 10, 13, 19), [(0, 10, 17, 85)], "java/lang/IndexOutOfBoundsException", rfl, (fun z hz => by cases hz), by decide, by decide, by decide, by decide +kernel, by decide +kernel, rfl⟩, fun q9 => ?_⟩
        refine rj_astore (l' := [(4, .ref q9), (0, .ref (ω.2.2 0)), (1, .int a0), (2, .int a1), (3, .ref (ω.2.2 438))]) dL_front_13 rfl (rj_bl rfl) rfl ?_
        refine rj_iconst (v := 1) dL_front_15 rfl (by decide) ?_
        exact rj_iret dL_front_16 rfl (Nat.le_of_ble_eq_true rfl) (Nat.le_of_ble_eq_true rfl) ⟨by unfold fL_front; rw [hf]; decide, rfl, by unfold mL_front; rw [hf]; rfl⟩
      · refine ⟨17, ⟨[(0, 10, 13, 19)], (0, 10, 17, 85), [], "java/util/NoSuchElementException", rfl, by
            intro z hz
            simp only [List.mem_cons, List.not_mem_nil, or_false] at hz
            subst hz
            exact ⟨by decide, "java/lang/IndexOutOfBoundsException", by decide +kernel, by decide +kernel⟩, by decide, by decide, by decide, by decide +kernel, by decide +kernel, rfl⟩, fun q9 => ?_⟩
        refine rj_astore (l' := [(4, .ref q9), (0, .ref (ω.2.2 0)), (1, .int a0), (2, .int a1), (3, .ref (ω.2.2 438))]) dL_front_17 rfl (rj_bl rfl) rfl ?_
        refine rj_iconst (v := 2) dL_front_19 rfl (by decide) ?_
        exact rj_iret dL_front_20 rfl (Nat.le_of_ble_eq_true rfl) (Nat.le_of_ble_eq_true rfl) ⟨by unfold fL_front; rw [hf]; decide, rfl, by unfold mL_front; rw [hf]; rfl⟩
    · intro v hv
      cases hv
noncomputable def fL_waitOf (μ : rj_M) (a0 : Int32) : Int32 := Sum.elim (fun _ => 0) (rj_hc ["java/lang/IndexOutOfBoundsException"] 1) (fX11_waitOf μ a0)
noncomputable def mL_waitOf (μ : rj_M) (a0 : Int32) : rj_M := Sum.elim (fun v => rj_pl μ 438 0 v.toInt64) (fun _ => μ) (fX11_waitOf μ a0)
set_option maxHeartbeats 4000000 in
set_option maxRecDepth 100000 in
theorem sL_waitOf {g : rj_G} {ω : rj_W} (hω : rj_ok ω) (μ : rj_M) (a0 : Int32) (hx : ∀ E : String, (fX11_waitOf μ a0) = .inr E → E ∈ ["java/lang/IndexOutOfBoundsException"]) : rj_Sp g yL_waitOf wsL_waitOf (rj_rm 8 1) [.ref (ω.2.2 0), .int a0, .ref (ω.2.2 438)] ω μ (rj_D (.inl (some (.int (fL_waitOf μ a0)))) ω (mL_waitOf μ a0)) := by
  refine rj_ofH (cc := cL_waitOf) (nL := 4) (ret := (some .int)) (hh := [(0, 9, 12, 19)]) (own := RL) (l0 := [(0, .ref (ω.2.2 0)), (1, .int a0), (2, .ref (ω.2.2 438))]) rfl (by decide +kernel) rfl (Nat.le_of_ble_eq_true rfl) rfl ?_
  have hM := (sX11_waitOf (g := g) (ω := ω) hω μ a0   )
  refine rj_aload_n 2 dL_waitOf_0 rfl rfl ?_
  refine rj_iconst (v := 0) dL_waitOf_1 rfl (by decide) ?_
  refine rj_aload_n 0 dL_waitOf_2 rfl rfl ?_
  refine rj_iload_n 1 dL_waitOf_3 rfl rfl ?_
  rcases hf : (fX11_waitOf μ a0) with v | E
  · rw [hf] at hM
    refine rj_cVh (rest := [.int 0, .ref (ω.2.2 438)]) hM gL_waitOf_X11_waitOf (rj_lt hω (k := 0) rfl) (rj_sh hω ly_0) rfl rfl hVX11_waitOf ⟨(Nat.le_of_ble_eq_true rfl), (Nat.le_of_ble_eq_true rfl)⟩ dL_waitOf_4 rfl rfl rfl (Nat.le_of_ble_eq_true rfl) rfl (Nat.le_of_ble_eq_true rfl) ?_ ?_
    · intro E hE
      cases hE
    · intro v0 hv
      cases hv
      refine rj_i2l dL_waitOf_7 rfl ?_
      refine rj_last dL_waitOf_8 rfl (rj_lt hω (k := 438) rfl) (rj_sh hω ly_438) (vp_in_nI (n := 0) (rj_bl rfl) (rj_bl rfl)) ?_
      refine rj_goto dL_waitOf_9 rfl ?_
      refine rj_iconst (v := 0) dL_waitOf_15 rfl (by decide) ?_
      exact rj_iret dL_waitOf_16 rfl (Nat.le_of_ble_eq_true rfl) (Nat.le_of_ble_eq_true rfl) ⟨by unfold fL_waitOf; rw [hf]; rfl, rfl, by unfold mL_waitOf; rw [hf]; rfl⟩
  · rw [hf] at hM
    have hE := hx E hf
    refine rj_cVh (rest := [.int 0, .ref (ω.2.2 438)]) hM gL_waitOf_X11_waitOf (rj_lt hω (k := 0) rfl) (rj_sh hω ly_0) rfl rfl hVX11_waitOf ⟨(Nat.le_of_ble_eq_true rfl), (Nat.le_of_ble_eq_true rfl)⟩ dL_waitOf_4 rfl rfl rfl (Nat.le_of_ble_eq_true rfl) rfl (Nat.le_of_ble_eq_true rfl) ?_ ?_
    · intro E0 hE0
      cases hE0
      simp only [List.mem_cons, List.not_mem_nil, or_false] at hE
      subst hE
      refine ⟨12, ⟨[], (0, 9, 12, 19), [], "java/lang/IndexOutOfBoundsException", rfl, (fun z hz => by cases hz), by decide, by decide, by decide, by decide +kernel, by decide +kernel, rfl⟩, fun q9 => ?_⟩
      refine rj_astore_n (l' := [(3, .ref q9), (0, .ref (ω.2.2 0)), (1, .int a0), (2, .ref (ω.2.2 438))]) dL_waitOf_12 rfl (rj_bl rfl) rfl ?_
      refine rj_iconst (v := 1) dL_waitOf_13 rfl (by decide) ?_
      exact rj_iret dL_waitOf_14 rfl (Nat.le_of_ble_eq_true rfl) (Nat.le_of_ble_eq_true rfl) ⟨by unfold fL_waitOf; rw [hf]; decide, rfl, by unfold mL_waitOf; rw [hf]; rfl⟩
    · intro v hv
      cases hv
noncomputable def fL_helpers (μ : rj_M) (a0 : Int32) : Int32 := Sum.elim (fun _ => 0) (rj_hc ["java/lang/IndexOutOfBoundsException"] 1) (fX11_helpers μ a0)
noncomputable def mL_helpers (μ : rj_M) (a0 : Int32) : rj_M := Sum.elim (fun v => rj_pl (mX11_helpers μ a0) 438 0 v.toInt64) (fun _ => (mX11_helpers μ a0)) (fX11_helpers μ a0)
set_option maxHeartbeats 4000000 in
set_option maxRecDepth 100000 in
theorem sL_helpers {g : rj_G} {ω : rj_W} (hω : rj_ok ω) (μ : rj_M) (a0 : Int32) (hq : qX11_helpers μ a0) (hx : ∀ E : String, (fX11_helpers μ a0) = .inr E → E ∈ ["java/lang/IndexOutOfBoundsException"]) : rj_Sp g yL_helpers wsL_helpers (rj_rm 8 1) [.ref (ω.2.2 0), .int a0, .ref (ω.2.2 438)] ω μ (rj_D (.inl (some (.int (fL_helpers μ a0)))) ω (mL_helpers μ a0)) := by
  refine rj_ofH (cc := cL_helpers) (nL := 4) (ret := (some .int)) (hh := [(0, 9, 12, 19)]) (own := RL) (l0 := [(0, .ref (ω.2.2 0)), (1, .int a0), (2, .ref (ω.2.2 438))]) rfl (by decide +kernel) rfl (Nat.le_of_ble_eq_true rfl) rfl ?_
  have hM := (sX11_helpers (g := g) (ω := ω) hω μ a0   hq)
  refine rj_aload_n 2 dL_helpers_0 rfl rfl ?_
  refine rj_iconst (v := 0) dL_helpers_1 rfl (by decide) ?_
  refine rj_aload_n 0 dL_helpers_2 rfl rfl ?_
  refine rj_iload_n 1 dL_helpers_3 rfl rfl ?_
  rcases hf : (fX11_helpers μ a0) with v | E
  · rw [hf] at hM
    refine rj_cVh (rest := [.int 0, .ref (ω.2.2 438)]) hM gL_helpers_X11_helpers (rj_lt hω (k := 0) rfl) (rj_sh hω ly_0) rfl rfl hVX11_helpers ⟨(Nat.le_of_ble_eq_true rfl), (Nat.le_of_ble_eq_true rfl)⟩ dL_helpers_4 rfl rfl rfl (Nat.le_of_ble_eq_true rfl) rfl (Nat.le_of_ble_eq_true rfl) ?_ ?_
    · intro E hE
      cases hE
    · intro v0 hv
      cases hv
      refine rj_i2l dL_helpers_7 rfl ?_
      refine rj_last dL_helpers_8 rfl (rj_lt hω (k := 438) rfl) (rj_sh hω ly_438) (vp_in_nI (n := 0) (rj_bl rfl) (rj_bl rfl)) ?_
      refine rj_goto dL_helpers_9 rfl ?_
      refine rj_iconst (v := 0) dL_helpers_15 rfl (by decide) ?_
      exact rj_iret dL_helpers_16 rfl (Nat.le_of_ble_eq_true rfl) (Nat.le_of_ble_eq_true rfl) ⟨by unfold fL_helpers; rw [hf]; rfl, rfl, by unfold mL_helpers; rw [hf]; rfl⟩
  · rw [hf] at hM
    have hE := hx E hf
    refine rj_cVh (rest := [.int 0, .ref (ω.2.2 438)]) hM gL_helpers_X11_helpers (rj_lt hω (k := 0) rfl) (rj_sh hω ly_0) rfl rfl hVX11_helpers ⟨(Nat.le_of_ble_eq_true rfl), (Nat.le_of_ble_eq_true rfl)⟩ dL_helpers_4 rfl rfl rfl (Nat.le_of_ble_eq_true rfl) rfl (Nat.le_of_ble_eq_true rfl) ?_ ?_
    · intro E0 hE0
      cases hE0
      simp only [List.mem_cons, List.not_mem_nil, or_false] at hE
      subst hE
      refine ⟨12, ⟨[], (0, 9, 12, 19), [], "java/lang/IndexOutOfBoundsException", rfl, (fun z hz => by cases hz), by decide, by decide, by decide, by decide +kernel, by decide +kernel, rfl⟩, fun q9 => ?_⟩
      refine rj_astore_n (l' := [(3, .ref q9), (0, .ref (ω.2.2 0)), (1, .int a0), (2, .ref (ω.2.2 438))]) dL_helpers_12 rfl (rj_bl rfl) rfl ?_
      refine rj_iconst (v := 1) dL_helpers_13 rfl (by decide) ?_
      exact rj_iret dL_helpers_14 rfl (Nat.le_of_ble_eq_true rfl) (Nat.le_of_ble_eq_true rfl) ⟨by unfold fL_helpers; rw [hf]; decide, rfl, by unfold mL_helpers; rw [hf]; rfl⟩
    · intro v hv
      cases hv
noncomputable def fL_isOn (μ : rj_M) (a0 : Int32) : Int32 := Sum.elim (fun _ => 0) (rj_hc ["java/lang/IndexOutOfBoundsException", "java/util/NoSuchElementException"] 1) (fX11_isOn μ a0)
noncomputable def mL_isOn (μ : rj_M) (a0 : Int32) : rj_M := Sum.elim (fun v => rj_pl (mX11_isOn μ a0) 438 0 v.toInt64) (fun _ => (mX11_isOn μ a0)) (fX11_isOn μ a0)
set_option maxHeartbeats 4000000 in
set_option maxRecDepth 100000 in
theorem sL_isOn {g : rj_G} {ω : rj_W} (hω : rj_ok ω) (μ : rj_M) (a0 : Int32) (hx : ∀ E : String, (fX11_isOn μ a0) = .inr E → E ∈ ["java/lang/IndexOutOfBoundsException", "java/util/NoSuchElementException"]) : rj_Sp g yL_isOn wsL_isOn (rj_rm 8 2) [.ref (ω.2.2 0), .int a0, .ref (ω.2.2 438)] ω μ (rj_D (.inl (some (.int (fL_isOn μ a0)))) ω (mL_isOn μ a0)) := by
  refine rj_ofH (cc := cL_isOn) (nL := 4) (ret := (some .int)) (hh := [(0, 9, 12, 19), (0, 9, 15, 85)]) (own := RL) (l0 := [(0, .ref (ω.2.2 0)), (1, .int a0), (2, .ref (ω.2.2 438))]) rfl (by decide +kernel) rfl (Nat.le_of_ble_eq_true rfl) rfl ?_
  have hM := (sX11_isOn (g := g) (ω := ω) hω μ a0   )
  refine rj_aload_n 2 dL_isOn_0 rfl rfl ?_
  refine rj_iconst (v := 0) dL_isOn_1 rfl (by decide) ?_
  refine rj_aload_n 0 dL_isOn_2 rfl rfl ?_
  refine rj_iload_n 1 dL_isOn_3 rfl rfl ?_
  rcases hf : (fX11_isOn μ a0) with v | E
  · rw [hf] at hM
    refine rj_cVh (rest := [.int 0, .ref (ω.2.2 438)]) hM gL_isOn_X11_isOn (rj_lt hω (k := 0) rfl) (rj_sh hω ly_0) rfl rfl hVX11_isOn ⟨(Nat.le_of_ble_eq_true rfl), (Nat.le_of_ble_eq_true rfl)⟩ dL_isOn_4 rfl rfl rfl (Nat.le_of_ble_eq_true rfl) rfl (Nat.le_of_ble_eq_true rfl) ?_ ?_
    · intro E hE
      cases hE
    · intro v0 hv
      cases hv
      refine rj_i2l dL_isOn_7 rfl ?_
      refine rj_last dL_isOn_8 rfl (rj_lt hω (k := 438) rfl) (rj_sh hω ly_438) (vp_in_nI (n := 0) (rj_bl rfl) (rj_bl rfl)) ?_
      refine rj_goto dL_isOn_9 rfl ?_
      refine rj_iconst (v := 0) dL_isOn_18 rfl (by decide) ?_
      exact rj_iret dL_isOn_19 rfl (Nat.le_of_ble_eq_true rfl) (Nat.le_of_ble_eq_true rfl) ⟨by unfold fL_isOn; rw [hf]; rfl, rfl, by unfold mL_isOn; rw [hf]; rfl⟩
  · rw [hf] at hM
    have hE := hx E hf
    refine rj_cVh (rest := [.int 0, .ref (ω.2.2 438)]) hM gL_isOn_X11_isOn (rj_lt hω (k := 0) rfl) (rj_sh hω ly_0) rfl rfl hVX11_isOn ⟨(Nat.le_of_ble_eq_true rfl), (Nat.le_of_ble_eq_true rfl)⟩ dL_isOn_4 rfl rfl rfl (Nat.le_of_ble_eq_true rfl) rfl (Nat.le_of_ble_eq_true rfl) ?_ ?_
    · intro E0 hE0
      cases hE0
      simp only [List.mem_cons, List.not_mem_nil, or_false] at hE
      rcases hE with rfl | rfl
      · refine ⟨12, ⟨[], (0, 9, 12, 19), [(0, 9, 15, 85)], "java/lang/IndexOutOfBoundsException", rfl, (fun z hz => by cases hz), by decide, by decide, by decide, by decide +kernel, by decide +kernel, rfl⟩, fun q9 => ?_⟩
        refine rj_astore_n (l' := [(3, .ref q9), (0, .ref (ω.2.2 0)), (1, .int a0), (2, .ref (ω.2.2 438))]) dL_isOn_12 rfl (rj_bl rfl) rfl ?_
        refine rj_iconst (v := 1) dL_isOn_13 rfl (by decide) ?_
        exact rj_iret dL_isOn_14 rfl (Nat.le_of_ble_eq_true rfl) (Nat.le_of_ble_eq_true rfl) ⟨by unfold fL_isOn; rw [hf]; decide, rfl, by unfold mL_isOn; rw [hf]; rfl⟩
      · refine ⟨15, ⟨[(0, 9, 12, 19)], (0, 9, 15, 85), [], "java/util/NoSuchElementException", rfl, by
            intro z hz
            simp only [List.mem_cons, List.not_mem_nil, or_false] at hz
            subst hz
            exact ⟨by decide, "java/lang/IndexOutOfBoundsException", by decide +kernel, by decide +kernel⟩, by decide, by decide, by decide, by decide +kernel, by decide +kernel, rfl⟩, fun q9 => ?_⟩
        refine rj_astore_n (l' := [(3, .ref q9), (0, .ref (ω.2.2 0)), (1, .int a0), (2, .ref (ω.2.2 438))]) dL_isOn_15 rfl (rj_bl rfl) rfl ?_
        refine rj_iconst (v := 2) dL_isOn_16 rfl (by decide) ?_
        exact rj_iret dL_isOn_17 rfl (Nat.le_of_ble_eq_true rfl) (Nat.le_of_ble_eq_true rfl) ⟨by unfold fL_isOn; rw [hf]; decide, rfl, by unfold mL_isOn; rw [hf]; rfl⟩
    · intro v hv
      cases hv
noncomputable def fL_rain (μ : rj_M) (a0 : Int32) (a1 : Int32) : Int32 := Sum.elim (fun _ => 0) (rj_hc ["java/lang/IllegalArgumentException", "java/lang/IllegalStateException"] 1) (fX11_rain μ a0 a1)
noncomputable def mL_rain (μ : rj_M) (a0 : Int32) (a1 : Int32) : rj_M := Sum.elim (fun v => rj_pl (mX11_rain μ a0 a1) 438 0 v.toInt64) (fun _ => (mX11_rain μ a0 a1)) (fX11_rain μ a0 a1)
set_option maxHeartbeats 4000000 in
set_option maxRecDepth 100000 in
theorem sL_rain {g : rj_G} {ω : rj_W} (hω : rj_ok ω) (μ : rj_M) (a0 : Int32) (a1 : Int32) (hq : qX11_rain μ a0 a1) (hx : ∀ E : String, (fX11_rain μ a0 a1) = .inr E → E ∈ ["java/lang/IllegalArgumentException", "java/lang/IllegalStateException"]) : rj_Sp g yL_rain wsL_rain (rj_rm 14 3) [.ref (ω.2.2 0), .int a0, .int a1, .ref (ω.2.2 438)] ω μ (rj_D (.inl (some (.int (fL_rain μ a0 a1)))) ω (mL_rain μ a0 a1)) := by
  refine rj_ofH (cc := cL_rain) (nL := 5) (ret := (some .int)) (hh := [(0, 10, 13, 13), (0, 10, 17, 28)]) (own := RL) (l0 := [(0, .ref (ω.2.2 0)), (1, .int a0), (2, .int a1), (3, .ref (ω.2.2 438))]) rfl (by decide +kernel) rfl (Nat.le_of_ble_eq_true rfl) rfl ?_
  have hM := (sX11_rain (g := g) (ω := ω) hω μ a0 a1   hq)
  refine rj_aload_n 3 dL_rain_0 rfl rfl ?_
  refine rj_iconst (v := 0) dL_rain_1 rfl (by decide) ?_
  refine rj_aload_n 0 dL_rain_2 rfl rfl ?_
  refine rj_iload_n 1 dL_rain_3 rfl rfl ?_
  refine rj_iload_n 2 dL_rain_4 rfl rfl ?_
  rcases hf : (fX11_rain μ a0 a1) with v | E
  · rw [hf] at hM
    refine rj_cVh (rest := [.int 0, .ref (ω.2.2 438)]) hM gL_rain_X11_rain (rj_lt hω (k := 0) rfl) (rj_sh hω ly_0) rfl rfl hVX11_rain ⟨(Nat.le_of_ble_eq_true rfl), (Nat.le_of_ble_eq_true rfl)⟩ dL_rain_5 rfl rfl rfl (Nat.le_of_ble_eq_true rfl) rfl (Nat.le_of_ble_eq_true rfl) ?_ ?_
    · intro E hE
      cases hE
    · intro v0 hv
      cases hv
      refine rj_i2l dL_rain_8 rfl ?_
      refine rj_last dL_rain_9 rfl (rj_lt hω (k := 438) rfl) (rj_sh hω ly_438) (vp_in_nI (n := 0) (rj_bl rfl) (rj_bl rfl)) ?_
      refine rj_goto dL_rain_10 rfl ?_
      refine rj_iconst (v := 0) dL_rain_21 rfl (by decide) ?_
      exact rj_iret dL_rain_22 rfl (Nat.le_of_ble_eq_true rfl) (Nat.le_of_ble_eq_true rfl) ⟨by unfold fL_rain; rw [hf]; rfl, rfl, by unfold mL_rain; rw [hf]; rfl⟩
  · rw [hf] at hM
    have hE := hx E hf
    refine rj_cVh (rest := [.int 0, .ref (ω.2.2 438)]) hM gL_rain_X11_rain (rj_lt hω (k := 0) rfl) (rj_sh hω ly_0) rfl rfl hVX11_rain ⟨(Nat.le_of_ble_eq_true rfl), (Nat.le_of_ble_eq_true rfl)⟩ dL_rain_5 rfl rfl rfl (Nat.le_of_ble_eq_true rfl) rfl (Nat.le_of_ble_eq_true rfl) ?_ ?_
    · intro E0 hE0
      cases hE0
      simp only [List.mem_cons, List.not_mem_nil, or_false] at hE
      rcases hE with rfl | rfl
      · refine ⟨13, ⟨[], (0, 10, 13, 13), [(0, 10, 17, 28)], "java/lang/IllegalArgumentException", rfl, (fun z hz => by cases hz), by decide, by decide, by decide, by decide +kernel, by decide +kernel, rfl⟩, fun q9 => ?_⟩
        refine rj_astore (l' := [(4, .ref q9), (0, .ref (ω.2.2 0)), (1, .int a0), (2, .int a1), (3, .ref (ω.2.2 438))]) dL_rain_13 rfl (rj_bl rfl) rfl ?_
        refine rj_iconst (v := 1) dL_rain_15 rfl (by decide) ?_
        exact rj_iret dL_rain_16 rfl (Nat.le_of_ble_eq_true rfl) (Nat.le_of_ble_eq_true rfl) ⟨by unfold fL_rain; rw [hf]; decide, rfl, by unfold mL_rain; rw [hf]; rfl⟩
      · refine ⟨17, ⟨[(0, 10, 13, 13)], (0, 10, 17, 28), [], "java/lang/IllegalStateException", rfl, by
            intro z hz
            simp only [List.mem_cons, List.not_mem_nil, or_false] at hz
            subst hz
            exact ⟨by decide, "java/lang/IllegalArgumentException", by decide +kernel, by decide +kernel⟩, by decide, by decide, by decide, by decide +kernel, by decide +kernel, rfl⟩, fun q9 => ?_⟩
        refine rj_astore (l' := [(4, .ref q9), (0, .ref (ω.2.2 0)), (1, .int a0), (2, .int a1), (3, .ref (ω.2.2 438))]) dL_rain_17 rfl (rj_bl rfl) rfl ?_
        refine rj_iconst (v := 2) dL_rain_19 rfl (by decide) ?_
        exact rj_iret dL_rain_20 rfl (Nat.le_of_ble_eq_true rfl) (Nat.le_of_ble_eq_true rfl) ⟨by unfold fL_rain; rw [hf]; decide, rfl, by unfold mL_rain; rw [hf]; rfl⟩
    · intro v hv
      cases hv
noncomputable def fL_movedTo (μ : rj_M) (a0 : Int32) : Int32 := Sum.elim (fun _ => 0) (rj_hc ["java/lang/IndexOutOfBoundsException"] 1) (fX11_movedTo μ a0)
noncomputable def mL_movedTo (μ : rj_M) (a0 : Int32) : rj_M := Sum.elim (fun v => rj_pl μ 438 0 v.toInt64) (fun _ => μ) (fX11_movedTo μ a0)
set_option maxHeartbeats 4000000 in
set_option maxRecDepth 100000 in
theorem sL_movedTo {g : rj_G} {ω : rj_W} (hω : rj_ok ω) (μ : rj_M) (a0 : Int32) (hx : ∀ E : String, (fX11_movedTo μ a0) = .inr E → E ∈ ["java/lang/IndexOutOfBoundsException"]) : rj_Sp g yL_movedTo wsL_movedTo (rj_rm 8 1) [.ref (ω.2.2 0), .int a0, .ref (ω.2.2 438)] ω μ (rj_D (.inl (some (.int (fL_movedTo μ a0)))) ω (mL_movedTo μ a0)) := by
  refine rj_ofH (cc := cL_movedTo) (nL := 4) (ret := (some .int)) (hh := [(0, 9, 12, 19)]) (own := RL) (l0 := [(0, .ref (ω.2.2 0)), (1, .int a0), (2, .ref (ω.2.2 438))]) rfl (by decide +kernel) rfl (Nat.le_of_ble_eq_true rfl) rfl ?_
  have hM := (sX11_movedTo (g := g) (ω := ω) hω μ a0   )
  refine rj_aload_n 2 dL_movedTo_0 rfl rfl ?_
  refine rj_iconst (v := 0) dL_movedTo_1 rfl (by decide) ?_
  refine rj_aload_n 0 dL_movedTo_2 rfl rfl ?_
  refine rj_iload_n 1 dL_movedTo_3 rfl rfl ?_
  rcases hf : (fX11_movedTo μ a0) with v | E
  · rw [hf] at hM
    refine rj_cVh (rest := [.int 0, .ref (ω.2.2 438)]) hM gL_movedTo_X11_movedTo (rj_lt hω (k := 0) rfl) (rj_sh hω ly_0) rfl rfl hVX11_movedTo ⟨(Nat.le_of_ble_eq_true rfl), (Nat.le_of_ble_eq_true rfl)⟩ dL_movedTo_4 rfl rfl rfl (Nat.le_of_ble_eq_true rfl) rfl (Nat.le_of_ble_eq_true rfl) ?_ ?_
    · intro E hE
      cases hE
    · intro v0 hv
      cases hv
      refine rj_i2l dL_movedTo_7 rfl ?_
      refine rj_last dL_movedTo_8 rfl (rj_lt hω (k := 438) rfl) (rj_sh hω ly_438) (vp_in_nI (n := 0) (rj_bl rfl) (rj_bl rfl)) ?_
      refine rj_goto dL_movedTo_9 rfl ?_
      refine rj_iconst (v := 0) dL_movedTo_15 rfl (by decide) ?_
      exact rj_iret dL_movedTo_16 rfl (Nat.le_of_ble_eq_true rfl) (Nat.le_of_ble_eq_true rfl) ⟨by unfold fL_movedTo; rw [hf]; rfl, rfl, by unfold mL_movedTo; rw [hf]; rfl⟩
  · rw [hf] at hM
    have hE := hx E hf
    refine rj_cVh (rest := [.int 0, .ref (ω.2.2 438)]) hM gL_movedTo_X11_movedTo (rj_lt hω (k := 0) rfl) (rj_sh hω ly_0) rfl rfl hVX11_movedTo ⟨(Nat.le_of_ble_eq_true rfl), (Nat.le_of_ble_eq_true rfl)⟩ dL_movedTo_4 rfl rfl rfl (Nat.le_of_ble_eq_true rfl) rfl (Nat.le_of_ble_eq_true rfl) ?_ ?_
    · intro E0 hE0
      cases hE0
      simp only [List.mem_cons, List.not_mem_nil, or_false] at hE
      subst hE
      refine ⟨12, ⟨[], (0, 9, 12, 19), [], "java/lang/IndexOutOfBoundsException", rfl, (fun z hz => by cases hz), by decide, by decide, by decide, by decide +kernel, by decide +kernel, rfl⟩, fun q9 => ?_⟩
      refine rj_astore_n (l' := [(3, .ref q9), (0, .ref (ω.2.2 0)), (1, .int a0), (2, .ref (ω.2.2 438))]) dL_movedTo_12 rfl (rj_bl rfl) rfl ?_
      refine rj_iconst (v := 1) dL_movedTo_13 rfl (by decide) ?_
      exact rj_iret dL_movedTo_14 rfl (Nat.le_of_ble_eq_true rfl) (Nat.le_of_ble_eq_true rfl) ⟨by unfold fL_movedTo; rw [hf]; decide, rfl, by unfold mL_movedTo; rw [hf]; rfl⟩
    · intro v hv
      cases hv
noncomputable def fL_ticketAt (μ : rj_M) (a0 : Int32) (a1 : Int32) : Int32 := Sum.elim (fun _ => 0) (rj_hc ["java/lang/IndexOutOfBoundsException"] 1) (fX11_ticketAt μ a0 a1)
noncomputable def mL_ticketAt (μ : rj_M) (a0 : Int32) (a1 : Int32) : rj_M := Sum.elim (fun v => rj_pl μ 438 0 v.toInt64) (fun _ => μ) (fX11_ticketAt μ a0 a1)
set_option maxHeartbeats 4000000 in
set_option maxRecDepth 100000 in
theorem sL_ticketAt {g : rj_G} {ω : rj_W} (hω : rj_ok ω) (μ : rj_M) (a0 : Int32) (a1 : Int32) (hx : ∀ E : String, (fX11_ticketAt μ a0 a1) = .inr E → E ∈ ["java/lang/IndexOutOfBoundsException"]) : rj_Sp g yL_ticketAt wsL_ticketAt (rj_rm 8 2) [.ref (ω.2.2 0), .int a0, .int a1, .ref (ω.2.2 438)] ω μ (rj_D (.inl (some (.int (fL_ticketAt μ a0 a1)))) ω (mL_ticketAt μ a0 a1)) := by
  refine rj_ofH (cc := cL_ticketAt) (nL := 5) (ret := (some .int)) (hh := [(0, 10, 13, 19)]) (own := RL) (l0 := [(0, .ref (ω.2.2 0)), (1, .int a0), (2, .int a1), (3, .ref (ω.2.2 438))]) rfl (by decide +kernel) rfl (Nat.le_of_ble_eq_true rfl) rfl ?_
  have hM := (sX11_ticketAt (g := g) (ω := ω) hω μ a0 a1   )
  refine rj_aload_n 3 dL_ticketAt_0 rfl rfl ?_
  refine rj_iconst (v := 0) dL_ticketAt_1 rfl (by decide) ?_
  refine rj_aload_n 0 dL_ticketAt_2 rfl rfl ?_
  refine rj_iload_n 1 dL_ticketAt_3 rfl rfl ?_
  refine rj_iload_n 2 dL_ticketAt_4 rfl rfl ?_
  rcases hf : (fX11_ticketAt μ a0 a1) with v | E
  · rw [hf] at hM
    refine rj_cVh (rest := [.int 0, .ref (ω.2.2 438)]) hM gL_ticketAt_X11_ticketAt (rj_lt hω (k := 0) rfl) (rj_sh hω ly_0) rfl rfl hVX11_ticketAt ⟨(Nat.le_of_ble_eq_true rfl), (Nat.le_of_ble_eq_true rfl)⟩ dL_ticketAt_5 rfl rfl rfl (Nat.le_of_ble_eq_true rfl) rfl (Nat.le_of_ble_eq_true rfl) ?_ ?_
    · intro E hE
      cases hE
    · intro v0 hv
      cases hv
      refine rj_i2l dL_ticketAt_8 rfl ?_
      refine rj_last dL_ticketAt_9 rfl (rj_lt hω (k := 438) rfl) (rj_sh hω ly_438) (vp_in_nI (n := 0) (rj_bl rfl) (rj_bl rfl)) ?_
      refine rj_goto dL_ticketAt_10 rfl ?_
      refine rj_iconst (v := 0) dL_ticketAt_17 rfl (by decide) ?_
      exact rj_iret dL_ticketAt_18 rfl (Nat.le_of_ble_eq_true rfl) (Nat.le_of_ble_eq_true rfl) ⟨by unfold fL_ticketAt; rw [hf]; rfl, rfl, by unfold mL_ticketAt; rw [hf]; rfl⟩
  · rw [hf] at hM
    have hE := hx E hf
    refine rj_cVh (rest := [.int 0, .ref (ω.2.2 438)]) hM gL_ticketAt_X11_ticketAt (rj_lt hω (k := 0) rfl) (rj_sh hω ly_0) rfl rfl hVX11_ticketAt ⟨(Nat.le_of_ble_eq_true rfl), (Nat.le_of_ble_eq_true rfl)⟩ dL_ticketAt_5 rfl rfl rfl (Nat.le_of_ble_eq_true rfl) rfl (Nat.le_of_ble_eq_true rfl) ?_ ?_
    · intro E0 hE0
      cases hE0
      simp only [List.mem_cons, List.not_mem_nil, or_false] at hE
      subst hE
      refine ⟨13, ⟨[], (0, 10, 13, 19), [], "java/lang/IndexOutOfBoundsException", rfl, (fun z hz => by cases hz), by decide, by decide, by decide, by decide +kernel, by decide +kernel, rfl⟩, fun q9 => ?_⟩
      refine rj_astore (l' := [(4, .ref q9), (0, .ref (ω.2.2 0)), (1, .int a0), (2, .int a1), (3, .ref (ω.2.2 438))]) dL_ticketAt_13 rfl (rj_bl rfl) rfl ?_
      refine rj_iconst (v := 1) dL_ticketAt_15 rfl (by decide) ?_
      exact rj_iret dL_ticketAt_16 rfl (Nat.le_of_ble_eq_true rfl) (Nat.le_of_ble_eq_true rfl) ⟨by unfold fL_ticketAt; rw [hf]; decide, rfl, by unfold mL_ticketAt; rw [hf]; rfl⟩
    · intro v hv
      cases hv
noncomputable def fL_balance (μ : rj_M) (a0 : Int32) (a1 : Int32) : Int32 := Sum.elim (fun _ => 0) (rj_hc ["java/lang/IllegalArgumentException", "java/lang/IndexOutOfBoundsException"] 1) (fX11_balance μ a0 a1)
noncomputable def mL_balance (μ : rj_M) (a0 : Int32) (a1 : Int32) : rj_M := Sum.elim (fun v => rj_pl μ 438 0 v) (fun _ => μ) (fX11_balance μ a0 a1)
set_option maxHeartbeats 4000000 in
set_option maxRecDepth 100000 in
theorem sL_balance {g : rj_G} {ω : rj_W} (hω : rj_ok ω) (μ : rj_M) (a0 : Int32) (a1 : Int32) (hx : ∀ E : String, (fX11_balance μ a0 a1) = .inr E → E ∈ ["java/lang/IllegalArgumentException", "java/lang/IndexOutOfBoundsException"]) : rj_Sp g yL_balance wsL_balance (rj_rm 8 2) [.ref (ω.2.2 0), .int a0, .int a1, .ref (ω.2.2 438)] ω μ (rj_D (.inl (some (.int (fL_balance μ a0 a1)))) ω (mL_balance μ a0 a1)) := by
  refine rj_ofH (cc := cL_balance) (nL := 5) (ret := (some .int)) (hh := [(0, 9, 12, 13), (0, 9, 16, 19)]) (own := RL) (l0 := [(0, .ref (ω.2.2 0)), (1, .int a0), (2, .int a1), (3, .ref (ω.2.2 438))]) rfl (by decide +kernel) rfl (Nat.le_of_ble_eq_true rfl) rfl ?_
  have hM := (sX11_balance (g := g) (ω := ω) hω μ a0 a1   )
  refine rj_aload_n 3 dL_balance_0 rfl rfl ?_
  refine rj_iconst (v := 0) dL_balance_1 rfl (by decide) ?_
  refine rj_aload_n 0 dL_balance_2 rfl rfl ?_
  refine rj_iload_n 1 dL_balance_3 rfl rfl ?_
  refine rj_iload_n 2 dL_balance_4 rfl rfl ?_
  rcases hf : (fX11_balance μ a0 a1) with v | E
  · rw [hf] at hM
    refine rj_cVh (rest := [.int 0, .ref (ω.2.2 438)]) hM gL_balance_X11_balance (rj_lt hω (k := 0) rfl) (rj_sh hω ly_0) rfl rfl hVX11_balance ⟨(Nat.le_of_ble_eq_true rfl), (Nat.le_of_ble_eq_true rfl)⟩ dL_balance_5 rfl rfl rfl (Nat.le_of_ble_eq_true rfl) rfl (Nat.le_of_ble_eq_true rfl) ?_ ?_
    · intro E hE
      cases hE
    · intro v0 hv
      cases hv
      refine rj_last dL_balance_8 rfl (rj_lt hω (k := 438) rfl) (rj_sh hω ly_438) (vp_in_nI (n := 0) (rj_bl rfl) (rj_bl rfl)) ?_
      refine rj_goto dL_balance_9 rfl ?_
      refine rj_iconst (v := 0) dL_balance_20 rfl (by decide) ?_
      exact rj_iret dL_balance_21 rfl (Nat.le_of_ble_eq_true rfl) (Nat.le_of_ble_eq_true rfl) ⟨by unfold fL_balance; rw [hf]; rfl, rfl, by unfold mL_balance; rw [hf]; rfl⟩
  · rw [hf] at hM
    have hE := hx E hf
    refine rj_cVh (rest := [.int 0, .ref (ω.2.2 438)]) hM gL_balance_X11_balance (rj_lt hω (k := 0) rfl) (rj_sh hω ly_0) rfl rfl hVX11_balance ⟨(Nat.le_of_ble_eq_true rfl), (Nat.le_of_ble_eq_true rfl)⟩ dL_balance_5 rfl rfl rfl (Nat.le_of_ble_eq_true rfl) rfl (Nat.le_of_ble_eq_true rfl) ?_ ?_
    · intro E0 hE0
      cases hE0
      simp only [List.mem_cons, List.not_mem_nil, or_false] at hE
      rcases hE with rfl | rfl
      · refine ⟨12, ⟨[], (0, 9, 12, 13), [(0, 9, 16, 19)], "java/lang/IllegalArgumentException", rfl, (fun z hz => by cases hz), by decide, by decide, by decide, by decide +kernel, by decide +kernel, rfl⟩, fun q9 => ?_⟩
        refine rj_astore (l' := [(4, .ref q9), (0, .ref (ω.2.2 0)), (1, .int a0), (2, .int a1), (3, .ref (ω.2.2 438))]) dL_balance_12 rfl (rj_bl rfl) rfl ?_
        refine rj_iconst (v := 1) dL_balance_14 rfl (by decide) ?_
        exact rj_iret dL_balance_15 rfl (Nat.le_of_ble_eq_true rfl) (Nat.le_of_ble_eq_true rfl) ⟨by unfold fL_balance; rw [hf]; decide, rfl, by unfold mL_balance; rw [hf]; rfl⟩
      · refine ⟨16, ⟨[(0, 9, 12, 13)], (0, 9, 16, 19), [], "java/lang/IndexOutOfBoundsException", rfl, by
            intro z hz
            simp only [List.mem_cons, List.not_mem_nil, or_false] at hz
            subst hz
            exact ⟨by decide, "java/lang/IllegalArgumentException", by decide +kernel, by decide +kernel⟩, by decide, by decide, by decide, by decide +kernel, by decide +kernel, rfl⟩, fun q9 => ?_⟩
        refine rj_astore (l' := [(4, .ref q9), (0, .ref (ω.2.2 0)), (1, .int a0), (2, .int a1), (3, .ref (ω.2.2 438))]) dL_balance_16 rfl (rj_bl rfl) rfl ?_
        refine rj_iconst (v := 2) dL_balance_18 rfl (by decide) ?_
        exact rj_iret dL_balance_19 rfl (Nat.le_of_ble_eq_true rfl) (Nat.le_of_ble_eq_true rfl) ⟨by unfold fL_balance; rw [hf]; decide, rfl, by unfold mL_balance; rw [hf]; rfl⟩
    · intro v hv
      cases hv
noncomputable def fL_meanEvening (μ : rj_M) (a0 : Int32) : Int32 := Sum.elim (fun _ => 0) (rj_hc ["java/lang/IndexOutOfBoundsException"] 1) (fX11_meanEvening μ a0)
noncomputable def mL_meanEvening (μ : rj_M) (a0 : Int32) : rj_M := Sum.elim (fun v => rj_pd (mX11_meanEvening μ a0) 439 0 v) (fun _ => (mX11_meanEvening μ a0)) (fX11_meanEvening μ a0)
set_option maxHeartbeats 4000000 in
set_option maxRecDepth 100000 in
theorem sL_meanEvening {g : rj_G} {ω : rj_W} (hω : rj_ok ω) (μ : rj_M) (a0 : Int32) (hq : qX11_meanEvening μ a0) (hx : ∀ E : String, (fX11_meanEvening μ a0) = .inr E → E ∈ ["java/lang/IndexOutOfBoundsException"]) : rj_Sp g yL_meanEvening wsL_meanEvening (rj_rm 8 1) [.ref (ω.2.2 0), .int a0, .ref (ω.2.2 439)] ω μ (rj_D (.inl (some (.int (fL_meanEvening μ a0)))) ω (mL_meanEvening μ a0)) := by
  refine rj_ofH (cc := cL_meanEvening) (nL := 4) (ret := (some .int)) (hh := [(0, 8, 11, 19)]) (own := RL) (l0 := [(0, .ref (ω.2.2 0)), (1, .int a0), (2, .ref (ω.2.2 439))]) rfl (by decide +kernel) rfl (Nat.le_of_ble_eq_true rfl) rfl ?_
  have hM := (sX11_meanEvening (g := g) (ω := ω) hω μ a0   hq)
  refine rj_aload_n 2 dL_meanEvening_0 rfl rfl ?_
  refine rj_iconst (v := 0) dL_meanEvening_1 rfl (by decide) ?_
  refine rj_aload_n 0 dL_meanEvening_2 rfl rfl ?_
  refine rj_iload_n 1 dL_meanEvening_3 rfl rfl ?_
  rcases hf : (fX11_meanEvening μ a0) with v | E
  · rw [hf] at hM
    refine rj_cVh (rest := [.int 0, .ref (ω.2.2 439)]) hM gL_meanEvening_X11_meanEvening (rj_lt hω (k := 0) rfl) (rj_sh hω ly_0) rfl rfl hVX11_meanEvening ⟨(Nat.le_of_ble_eq_true rfl), (Nat.le_of_ble_eq_true rfl)⟩ dL_meanEvening_4 rfl rfl rfl (Nat.le_of_ble_eq_true rfl) rfl (Nat.le_of_ble_eq_true rfl) ?_ ?_
    · intro E hE
      cases hE
    · intro v0 hv
      cases hv
      refine rj_dast dL_meanEvening_7 rfl (rj_lt hω (k := 439) rfl) (rj_sh hω ly_439) (vp_in_nI (n := 0) (rj_bl rfl) (rj_bl rfl)) ?_
      refine rj_goto dL_meanEvening_8 rfl ?_
      refine rj_iconst (v := 0) dL_meanEvening_14 rfl (by decide) ?_
      exact rj_iret dL_meanEvening_15 rfl (Nat.le_of_ble_eq_true rfl) (Nat.le_of_ble_eq_true rfl) ⟨by unfold fL_meanEvening; rw [hf]; rfl, rfl, by unfold mL_meanEvening; rw [hf]; rfl⟩
  · rw [hf] at hM
    have hE := hx E hf
    refine rj_cVh (rest := [.int 0, .ref (ω.2.2 439)]) hM gL_meanEvening_X11_meanEvening (rj_lt hω (k := 0) rfl) (rj_sh hω ly_0) rfl rfl hVX11_meanEvening ⟨(Nat.le_of_ble_eq_true rfl), (Nat.le_of_ble_eq_true rfl)⟩ dL_meanEvening_4 rfl rfl rfl (Nat.le_of_ble_eq_true rfl) rfl (Nat.le_of_ble_eq_true rfl) ?_ ?_
    · intro E0 hE0
      cases hE0
      simp only [List.mem_cons, List.not_mem_nil, or_false] at hE
      subst hE
      refine ⟨11, ⟨[], (0, 8, 11, 19), [], "java/lang/IndexOutOfBoundsException", rfl, (fun z hz => by cases hz), by decide, by decide, by decide, by decide +kernel, by decide +kernel, rfl⟩, fun q9 => ?_⟩
      refine rj_astore_n (l' := [(3, .ref q9), (0, .ref (ω.2.2 0)), (1, .int a0), (2, .ref (ω.2.2 439))]) dL_meanEvening_11 rfl (rj_bl rfl) rfl ?_
      refine rj_iconst (v := 1) dL_meanEvening_12 rfl (by decide) ?_
      exact rj_iret dL_meanEvening_13 rfl (Nat.le_of_ble_eq_true rfl) (Nat.le_of_ble_eq_true rfl) ⟨by unfold fL_meanEvening; rw [hf]; decide, rfl, by unfold mL_meanEvening; rw [hf]; rfl⟩
    · intro v hv
      cases hv
