theorem hSX12_dateAt : yX12_dateAt.cls ≠ "java/lang/invoke/MethodHandle" ∧ yX12_dateAt.cls ≠ "java/lang/invoke/VarHandle" ∧ (parseMethodDescriptor yX12_dateAt.desc).map (fun d => d.parameters.length) = some 2 := by decide +kernel
theorem hVX12_dateAt : yX12_dateAt.cls = RX12 ∧ yX12_dateAt.cls ≠ "java/lang/invoke/MethodHandle" ∧ yX12_dateAt.cls ≠ "java/lang/invoke/VarHandle" ∧ (parseMethodDescriptor yX12_dateAt.desc).map (fun d => d.parameters.length) = some 2 := by decide +kernel
theorem vX12_dateAt_12 : ∀ w ∈ u_ws RX12 TX12 16, w ∈ wsX12_dateAt := by decide +kernel
theorem kX12_dateAt_9 : Cond.fieldLink RX12 9 (TX12 1).1 (TX12 1).2.1 (TX12 1).2.2.1 ∈ wsX12_dateAt := by decide +kernel
def bX12_dateAt_64 (μ : rj_M) (a0 : Int32) (a1 : Int32) (s64 : Int32 × Int32 × Int32 × Int32) : (Int32 × Int32 × Int32 × Int32) ⊕ (Int32 × Int32 × Int32 × Int32) := (if s64.2.2.2 ≤ 0 then .inr (s64.1, s64.2.1, s64.2.2.1, s64.2.2.2) else (if (fX12_daysOf (mX12_lacksT μ) s64.1 s64.2.1) < s64.2.2.1 + 1 then (if 12 < s64.2.1 + 1 then .inl (s64.1 + 1, 1, 1, s64.2.2.2 + (-1)) else .inl (s64.1, s64.2.1 + 1, 1, s64.2.2.2 + (-1))) else .inl (s64.1, s64.2.1, s64.2.2.1 + 1, s64.2.2.2 + (-1))))
def qX12_dateAt_64 (μ : rj_M) (a0 : Int32) (a1 : Int32) (s64 : Int32 × Int32 × Int32 × Int32) : Prop := True
set_option maxHeartbeats 4000000 in
set_option maxRecDepth 100000 in
theorem lX12_dateAt_64 {g : rj_G} {ω : rj_W} (hω : rj_ok ω) (μ : rj_M) (a0 : Int32) (a1 : Int32)    (h1 : ¬ ((fX12_in μ a0 0 5759) = 0)) (h3 : ¬ ((fX12_in μ a1 0 5) = 0)) {F : rj_F} : ∀ (r : Nat) (s : Int32 × Int32 × Int32 × Int32), (True → ra_we (qX12_dateAt_64 μ a0 a1) (bX12_dateAt_64 μ a0 a1) r s) → (rj_R g RX12 cX12_dateAt 7 (some .int) wsX12_dateAt [] (rj_rm 3 0) F 0 ω (mX12_lacksT μ) [(0, .ref (ω.2.2 395)), (1, .int a0), (2, .int a1), (3, .int ((rj_we (bX12_dateAt_64 μ a0 a1) r s).1)), (4, .int ((rj_we (bX12_dateAt_64 μ a0 a1) r s).2.1)), (5, .int ((rj_we (bX12_dateAt_64 μ a0 a1) r s).2.2.1)), (6, .int ((rj_we (bX12_dateAt_64 μ a0 a1) r s).2.2.2))] 114 []) → rj_R g RX12 cX12_dateAt 7 (some .int) wsX12_dateAt [] (rj_rm 3 0) F 0 ω (mX12_lacksT μ) [(0, .ref (ω.2.2 395)), (1, .int a0), (2, .int a1), (3, .int s.1), (4, .int s.2.1), (5, .int s.2.2.1), (6, .int s.2.2.2)] 64 [] := by
  intro r
  induction r with
  | zero =>
    intro s hq0 K
    exact (ra_we_0 (hq0 True.intro)).elim
  | succ r ih =>
    intro s64 hq0 K
    have hqa := ra_we_q (hq0 True.intro)
    unfold qX12_dateAt_64 at hqa
    refine rj_iload 6 dX12_dateAt_64 rfl rfl ?_
    refine rj_if_le dX12_dateAt_66 rfl rfl (fun h6 => ?_) (fun h6 => ?_)
    · skip
      have e : bX12_dateAt_64 μ a0 a1 s64 = .inr (s64.1, s64.2.1, s64.2.2.1, s64.2.2.2) := by unfold bX12_dateAt_64; rw [if_pos h6]; try rfl
      exact rj_sub (l' := [(0, .ref (ω.2.2 395)), (1, .int a0), (2, .int a1), (3, .int s64.1), (4, .int s64.2.1), (5, .int s64.2.2.1), (6, .int s64.2.2.2)]) [0, 1, 2, 3, 4, 5, 6] rfl (by rw [rj_we_r e] at K; exact K)
    · skip
      refine rj_iinc (v := s64.2.2.1 + 1) (l' := [(5, .int (s64.2.2.1 + 1)), (0, .ref (ω.2.2 395)), (1, .int a0), (2, .int a1), (3, .int s64.1), (4, .int s64.2.1), (6, .int s64.2.2.2)]) 5 dX12_dateAt_69 rfl rfl rfl (rj_bl rfl) rfl ?_
      refine rj_iload 0 dX12_dateAt_72 rfl rfl ?_
      refine rj_iload_n 4 dX12_dateAt_74 rfl rfl ?_
      refine rj_iload 5 dX12_dateAt_75 rfl rfl ?_
      refine rj_cS (rest := [.int (s64.2.2.1 + 1)]) (sX12_daysOf (g := g) (ω := ω) hω (mX12_lacksT μ) s64.1 s64.2.1   ) gX12_dateAt_X12_daysOf rfl hSX12_daysOf ⟨Nat.le_of_ble_eq_true rfl, Nat.le_of_ble_eq_true rfl⟩ dX12_dateAt_77 rfl rfl rfl (Nat.le_of_ble_eq_true rfl) rfl (Nat.le_of_ble_eq_true rfl) rfl ?_
      refine rj_icmp_gt dX12_dateAt_80 rfl rfl (fun h7 => ?_) (fun h7 => ?_)
      · skip
        refine rj_iconst (v := 1) dX12_dateAt_86 rfl (by decide) ?_
        refine rj_istore (l' := [(5, .int 1), (0, .ref (ω.2.2 395)), (1, .int a0), (2, .int a1), (3, .int s64.1), (4, .int s64.2.1), (6, .int s64.2.2.2)]) dX12_dateAt_87 rfl (rj_bl rfl) rfl ?_
        refine rj_iinc (v := s64.2.1 + 1) (l' := [(4, .int (s64.2.1 + 1)), (5, .int 1), (0, .ref (ω.2.2 395)), (1, .int a0), (2, .int a1), (3, .int s64.1), (6, .int s64.2.2.2)]) 5 dX12_dateAt_89 rfl rfl rfl (rj_bl rfl) rfl ?_
        refine rj_iload 0 dX12_dateAt_92 rfl rfl ?_
        refine rj_bipush (v := 12) dX12_dateAt_94 rfl (by decide) ?_
        refine rj_icmp_gt dX12_dateAt_96 rfl rfl (fun h8 => ?_) (fun h8 => ?_)
        · skip
          refine rj_iconst (v := 1) dX12_dateAt_102 rfl (by decide) ?_
          refine rj_istore (l' := [(4, .int 1), (5, .int 1), (0, .ref (ω.2.2 395)), (1, .int a0), (2, .int a1), (3, .int s64.1), (6, .int s64.2.2.2)]) dX12_dateAt_103 rfl (rj_bl rfl) rfl ?_
          refine rj_iinc (v := s64.1 + 1) (l' := [(3, .int (s64.1 + 1)), (4, .int 1), (5, .int 1), (0, .ref (ω.2.2 395)), (1, .int a0), (2, .int a1), (6, .int s64.2.2.2)]) 5 dX12_dateAt_105 rfl rfl rfl (rj_bl rfl) rfl ?_
          refine rj_iinc (v := s64.2.2.2 + (-1)) (l' := [(6, .int (s64.2.2.2 + (-1))), (3, .int (s64.1 + 1)), (4, .int 1), (5, .int 1), (0, .ref (ω.2.2 395)), (1, .int a0), (2, .int a1)]) 6 dX12_dateAt_108 rfl rfl rfl (rj_bl rfl) rfl ?_
          refine rj_goto dX12_dateAt_111 rfl ?_
          have e : bX12_dateAt_64 μ a0 a1 s64 = .inl (s64.1 + 1, 1, 1, s64.2.2.2 + (-1)) := by unfold bX12_dateAt_64; rw [if_neg h6]; rw [if_pos h7]; rw [if_pos h8]; try rfl
          exact rj_sub (l' := [(0, .ref (ω.2.2 395)), (1, .int a0), (2, .int a1), (3, .int (s64.1 + 1)), (4, .int 1), (5, .int 1), (6, .int (s64.2.2.2 + (-1)))]) [4, 5, 6, 1, 2, 3, 0] rfl (ih (s64.1 + 1, 1, 1, s64.2.2.2 + (-1)) (fun _ => ra_we_n (hq0 True.intro) e) (by rw [rj_we_l e] at K; exact K))
        · skip
          refine rj_goto dX12_dateAt_99 rfl ?_
          refine rj_iinc (v := s64.2.2.2 + (-1)) (l' := [(6, .int (s64.2.2.2 + (-1))), (4, .int (s64.2.1 + 1)), (5, .int 1), (0, .ref (ω.2.2 395)), (1, .int a0), (2, .int a1), (3, .int s64.1)]) 6 dX12_dateAt_108 rfl rfl rfl (rj_bl rfl) rfl ?_
          refine rj_goto dX12_dateAt_111 rfl ?_
          have e : bX12_dateAt_64 μ a0 a1 s64 = .inl (s64.1, s64.2.1 + 1, 1, s64.2.2.2 + (-1)) := by unfold bX12_dateAt_64; rw [if_neg h6]; rw [if_pos h7]; rw [if_neg h8]; try rfl
          exact rj_sub (l' := [(0, .ref (ω.2.2 395)), (1, .int a0), (2, .int a1), (3, .int s64.1), (4, .int (s64.2.1 + 1)), (5, .int 1), (6, .int (s64.2.2.2 + (-1)))]) [3, 4, 5, 6, 1, 2, 0] rfl (ih (s64.1, s64.2.1 + 1, 1, s64.2.2.2 + (-1)) (fun _ => ra_we_n (hq0 True.intro) e) (by rw [rj_we_l e] at K; exact K))
      · skip
        refine rj_goto dX12_dateAt_83 rfl ?_
        refine rj_iinc (v := s64.2.2.2 + (-1)) (l' := [(6, .int (s64.2.2.2 + (-1))), (5, .int (s64.2.2.1 + 1)), (0, .ref (ω.2.2 395)), (1, .int a0), (2, .int a1), (3, .int s64.1), (4, .int s64.2.1)]) 6 dX12_dateAt_108 rfl rfl rfl (rj_bl rfl) rfl ?_
        refine rj_goto dX12_dateAt_111 rfl ?_
        have e : bX12_dateAt_64 μ a0 a1 s64 = .inl (s64.1, s64.2.1, s64.2.2.1 + 1, s64.2.2.2 + (-1)) := by unfold bX12_dateAt_64; rw [if_neg h6]; rw [if_neg h7]; try rfl
        exact rj_sub (l' := [(0, .ref (ω.2.2 395)), (1, .int a0), (2, .int a1), (3, .int s64.1), (4, .int s64.2.1), (5, .int (s64.2.2.1 + 1)), (6, .int (s64.2.2.2 + (-1)))]) [2, 3, 4, 5, 6, 1, 0] rfl (ih (s64.1, s64.2.1, s64.2.2.1 + 1, s64.2.2.2 + (-1)) (fun _ => ra_we_n (hq0 True.intro) e) (by rw [rj_we_l e] at K; exact K))
set_option maxHeartbeats 4000000 in
theorem lX12_dateAt_64u {g : rj_G} {ω : rj_W} (hω : rj_ok ω) (μ : rj_M) (a0 : Int32) (a1 : Int32)    (h1 : ¬ ((fX12_in μ a0 0 5759) = 0)) (h3 : ¬ ((fX12_in μ a1 0 5) = 0)) {F : rj_F} : ∀ (r : Nat) (c0 : Int32) (c1 : Int32) (c2 : Int32) (c3 : Int32), (True → ra_we (qX12_dateAt_64 μ a0 a1) (bX12_dateAt_64 μ a0 a1) r (c0, c1, c2, c3)) → (rj_R g RX12 cX12_dateAt 7 (some .int) wsX12_dateAt [] (rj_rm 3 0) F 0 ω (mX12_lacksT μ) [(0, .ref (ω.2.2 395)), (1, .int a0), (2, .int a1), (3, .int ((rj_we (bX12_dateAt_64 μ a0 a1) r (c0, c1, c2, c3)).1)), (4, .int ((rj_we (bX12_dateAt_64 μ a0 a1) r (c0, c1, c2, c3)).2.1)), (5, .int ((rj_we (bX12_dateAt_64 μ a0 a1) r (c0, c1, c2, c3)).2.2.1)), (6, .int ((rj_we (bX12_dateAt_64 μ a0 a1) r (c0, c1, c2, c3)).2.2.2))] 114 []) → rj_R g RX12 cX12_dateAt 7 (some .int) wsX12_dateAt [] (rj_rm 3 0) F 0 ω (mX12_lacksT μ) [(0, .ref (ω.2.2 395)), (1, .int a0), (2, .int a1), (3, .int c0), (4, .int c1), (5, .int c2), (6, .int c3)] 64 [] := fun r c0 c1 c2 c3 => lX12_dateAt_64 hω μ a0 a1    h1 h3 r (c0, c1, c2, c3)
def fX12_dateAt (μ : rj_M) (a0 : Int32) (a1 : Int32) : Int32 := (if (fX12_in μ a0 0 5759) = 0 then 0 else (if (fX12_in μ a1 0 5) = 0 then 0 else (if a1 = 0 then (rj_we (bX12_dateAt_64 μ a0 a1) 5 (((mX12_lacksT μ).1 396 (0 : Int32).toNatClampNeg), ((mX12_lacksT μ).1 396 (1 : Int32).toNatClampNeg), ((mX12_lacksT μ).1 396 (2 : Int32).toNatClampNeg), (a0 / 1440))).1 else (if a1 = 1 then (rj_we (bX12_dateAt_64 μ a0 a1) 5 (((mX12_lacksT μ).1 396 (0 : Int32).toNatClampNeg), ((mX12_lacksT μ).1 396 (1 : Int32).toNatClampNeg), ((mX12_lacksT μ).1 396 (2 : Int32).toNatClampNeg), (a0 / 1440))).2.1 else (if a1 = 2 then (rj_we (bX12_dateAt_64 μ a0 a1) 5 (((mX12_lacksT μ).1 396 (0 : Int32).toNatClampNeg), ((mX12_lacksT μ).1 396 (1 : Int32).toNatClampNeg), ((mX12_lacksT μ).1 396 (2 : Int32).toNatClampNeg), (a0 / 1440))).2.2.1 else (if a1 = 3 then (fX12_weekday (mX12_lacksT μ) ((rj_we (bX12_dateAt_64 μ a0 a1) 5 (((mX12_lacksT μ).1 396 (0 : Int32).toNatClampNeg), ((mX12_lacksT μ).1 396 (1 : Int32).toNatClampNeg), ((mX12_lacksT μ).1 396 (2 : Int32).toNatClampNeg), (a0 / 1440))).1) ((rj_we (bX12_dateAt_64 μ a0 a1) 5 (((mX12_lacksT μ).1 396 (0 : Int32).toNatClampNeg), ((mX12_lacksT μ).1 396 (1 : Int32).toNatClampNeg), ((mX12_lacksT μ).1 396 (2 : Int32).toNatClampNeg), (a0 / 1440))).2.1) ((rj_we (bX12_dateAt_64 μ a0 a1) 5 (((mX12_lacksT μ).1 396 (0 : Int32).toNatClampNeg), ((mX12_lacksT μ).1 396 (1 : Int32).toNatClampNeg), ((mX12_lacksT μ).1 396 (2 : Int32).toNatClampNeg), (a0 / 1440))).2.2.1)) else (if a1 = 4 then ((a0 - a0 / 1440 * 1440) / 60) else (a0 - a0 / 60 * 60))))))))
def mX12_dateAt (μ : rj_M) (a0 : Int32) (a1 : Int32) : rj_M := (if (fX12_in μ a0 0 5759) = 0 then (mX12_lacksF μ) else (if (fX12_in μ a1 0 5) = 0 then (mX12_lacksF μ) else (if a1 = 0 then (mX12_lacksT μ) else (if a1 = 1 then (mX12_lacksT μ) else (if a1 = 2 then (mX12_lacksT μ) else (if a1 = 3 then (mX12_lacksT μ) else (if a1 = 4 then (mX12_lacksT μ) else (mX12_lacksT μ))))))))
def qX12_dateAt (μ : rj_M) (a0 : Int32) (a1 : Int32) : Prop := ((((fX12_in μ a0 0 5759) = 0) → True) ∧ ((¬ ((fX12_in μ a0 0 5759) = 0)) → ((((fX12_in μ a1 0 5) = 0) → True) ∧ ((¬ ((fX12_in μ a1 0 5) = 0)) → ((True → ra_we (qX12_dateAt_64 μ a0 a1) (bX12_dateAt_64 μ a0 a1) 5 (((mX12_lacksT μ).1 396 (0 : Int32).toNatClampNeg), ((mX12_lacksT μ).1 396 (1 : Int32).toNatClampNeg), ((mX12_lacksT μ).1 396 (2 : Int32).toNatClampNeg), (a0 / 1440))) ∧ True)))))
set_option maxHeartbeats 40000000 in
set_option maxRecDepth 100000 in
theorem sX12_dateAt {g : rj_G} {ω : rj_W} (hω : rj_ok ω) (μ : rj_M) (a0 : Int32) (a1 : Int32)   (hq : qX12_dateAt μ a0 a1) : rj_Sp g yX12_dateAt wsX12_dateAt (rj_rm 3 0) [.ref (ω.2.2 395), .int a0, .int a1] ω μ (rj_D (.inl (some (.int (fX12_dateAt μ a0 a1)))) ω (mX12_dateAt μ a0 a1)) := by
  have hqa := hq
  unfold qX12_dateAt at hqa
  refine rj_of' (cc := cX12_dateAt) (nL := 7) (ret := (some .int)) (own := RX12) (l0 := [(0, .ref (ω.2.2 395)), (1, .int a0), (2, .int a1)]) rfl (by decide +kernel) rfl (Nat.le_of_ble_eq_true rfl) rfl ?_
  refine rj_aload_n 0 dX12_dateAt_0 rfl rfl ?_
  refine rj_iload_n 1 dX12_dateAt_1 rfl rfl ?_
  refine rj_iconst (v := 0) dX12_dateAt_2 rfl (by decide) ?_
  refine rj_sipush (v := 5759) dX12_dateAt_3 rfl (by decide) ?_
  refine rj_cS (rest := [.ref (ω.2.2 395)]) (sX12_in (g := g) (ω := ω) hω μ a0 0 5759   ) gX12_dateAt_X12_in rfl hSX12_in ⟨Nat.le_of_ble_eq_true rfl, Nat.le_of_ble_eq_true rfl⟩ dX12_dateAt_6 rfl rfl rfl (Nat.le_of_ble_eq_true rfl) rfl (Nat.le_of_ble_eq_true rfl) rfl ?_
  refine rj_if_eq dX12_dateAt_9 rfl rfl (fun h1 => ?_) (fun h1 => ?_)
  · skip
    refine rj_iconst (v := 0) dX12_dateAt_25 rfl (by decide) ?_
    refine rj_cV (rest := []) (sX12_lacksF (g := g) (ω := ω) hω μ   ) gX12_dateAt_X12_lacks (rj_lt hω (k := 395) rfl) (rj_sh hω ly_395) rfl rfl hVX12_lacks ⟨Nat.le_of_ble_eq_true rfl, Nat.le_of_ble_eq_true rfl⟩ dX12_dateAt_26 rfl rfl rfl (Nat.le_of_ble_eq_true rfl) rfl (Nat.le_of_ble_eq_true rfl) rfl ?_
    refine rj_if_eq dX12_dateAt_29 rfl rfl (fun h2 => ?_) (fun h2 => ?_)
    · exact absurd h2 (by decide)
    · refine rj_iconst (v := 0) dX12_dateAt_32 rfl (by decide) ?_
      exact rj_iret dX12_dateAt_33 rfl (Nat.le_of_ble_eq_true rfl) (Nat.le_of_ble_eq_true rfl) ⟨(by unfold fX12_dateAt; rw [if_pos h1]; try rfl), rfl, (by unfold mX12_dateAt; rw [if_pos h1]; try rfl)⟩
  · have hq2 := (And.right hqa) h1
    refine rj_iload_n 2 dX12_dateAt_12 rfl rfl ?_
    refine rj_iconst (v := 0) dX12_dateAt_13 rfl (by decide) ?_
    refine rj_iconst (v := 5) dX12_dateAt_14 rfl (by decide) ?_
    refine rj_cS (rest := [.ref (ω.2.2 395)]) (sX12_in (g := g) (ω := ω) hω μ a1 0 5   ) gX12_dateAt_X12_in rfl hSX12_in ⟨Nat.le_of_ble_eq_true rfl, Nat.le_of_ble_eq_true rfl⟩ dX12_dateAt_15 rfl rfl rfl (Nat.le_of_ble_eq_true rfl) rfl (Nat.le_of_ble_eq_true rfl) rfl ?_
    refine rj_if_eq dX12_dateAt_18 rfl rfl (fun h3 => ?_) (fun h3 => ?_)
    · skip
      refine rj_iconst (v := 0) dX12_dateAt_25 rfl (by decide) ?_
      refine rj_cV (rest := []) (sX12_lacksF (g := g) (ω := ω) hω μ   ) gX12_dateAt_X12_lacks (rj_lt hω (k := 395) rfl) (rj_sh hω ly_395) rfl rfl hVX12_lacks ⟨Nat.le_of_ble_eq_true rfl, Nat.le_of_ble_eq_true rfl⟩ dX12_dateAt_26 rfl rfl rfl (Nat.le_of_ble_eq_true rfl) rfl (Nat.le_of_ble_eq_true rfl) rfl ?_
      refine rj_if_eq dX12_dateAt_29 rfl rfl (fun h4 => ?_) (fun h4 => ?_)
      · exact absurd h4 (by decide)
      · refine rj_iconst (v := 0) dX12_dateAt_32 rfl (by decide) ?_
        exact rj_iret dX12_dateAt_33 rfl (Nat.le_of_ble_eq_true rfl) (Nat.le_of_ble_eq_true rfl) ⟨(by unfold fX12_dateAt; rw [if_neg h1]; rw [if_pos h3]; try rfl), rfl, (by unfold mX12_dateAt; rw [if_neg h1]; rw [if_pos h3]; try rfl)⟩
    · have hq4 := (And.right hq2) h3
      refine rj_iconst (v := 1) dX12_dateAt_21 rfl (by decide) ?_
      refine rj_goto dX12_dateAt_22 rfl ?_
      refine rj_cV (rest := []) (sX12_lacksT (g := g) (ω := ω) hω μ   ) gX12_dateAt_X12_lacks (rj_lt hω (k := 395) rfl) (rj_sh hω ly_395) rfl rfl hVX12_lacks ⟨Nat.le_of_ble_eq_true rfl, Nat.le_of_ble_eq_true rfl⟩ dX12_dateAt_26 rfl rfl rfl (Nat.le_of_ble_eq_true rfl) rfl (Nat.le_of_ble_eq_true rfl) rfl ?_
      refine rj_if_eq dX12_dateAt_29 rfl rfl (fun h5 => ?_) (fun h5 => ?_)
      · refine rj_aload_n 0 dX12_dateAt_34 rfl rfl ?_
        refine rj_getR (C0 := RX12) (T := TX12) (N := 16) (j := 1) (r := 396) dX12_dateAt_35 rfl vX12_dateAt_12 rfl (rj_lt hω (k := 395) rfl) (rj_sh hω ly_395) (by decide) kX12_dateAt_9 rfl ?_
        refine rj_iconst (v := 0) dX12_dateAt_38 rfl (by decide) ?_
        refine rj_iald dX12_dateAt_39 rfl (rj_lt hω (k := 396) rfl) (rj_sh hω ly_396) (vp_in_nI (n := 0) (rj_bl rfl) (rj_bl rfl)) ?_
        refine rj_istore_n (l' := [(3, .int ((mX12_lacksT μ).1 396 (0 : Int32).toNatClampNeg)), (0, .ref (ω.2.2 395)), (1, .int a0), (2, .int a1)]) dX12_dateAt_40 rfl (rj_bl rfl) rfl ?_
        refine rj_aload_n 1 dX12_dateAt_41 rfl rfl ?_
        refine rj_getR (C0 := RX12) (T := TX12) (N := 16) (j := 1) (r := 396) dX12_dateAt_42 rfl vX12_dateAt_12 rfl (rj_lt hω (k := 395) rfl) (rj_sh hω ly_395) (by decide) kX12_dateAt_9 rfl ?_
        refine rj_iconst (v := 1) dX12_dateAt_45 rfl (by decide) ?_
        refine rj_iald dX12_dateAt_46 rfl (rj_lt hω (k := 396) rfl) (rj_sh hω ly_396) (vp_in_nI (n := 1) (rj_bl rfl) (rj_bl rfl)) ?_
        refine rj_istore (l' := [(4, .int ((mX12_lacksT μ).1 396 (1 : Int32).toNatClampNeg)), (3, .int ((mX12_lacksT μ).1 396 (0 : Int32).toNatClampNeg)), (0, .ref (ω.2.2 395)), (1, .int a0), (2, .int a1)]) dX12_dateAt_47 rfl (rj_bl rfl) rfl ?_
        refine rj_aload_n 2 dX12_dateAt_49 rfl rfl ?_
        refine rj_getR (C0 := RX12) (T := TX12) (N := 16) (j := 1) (r := 396) dX12_dateAt_50 rfl vX12_dateAt_12 rfl (rj_lt hω (k := 395) rfl) (rj_sh hω ly_395) (by decide) kX12_dateAt_9 rfl ?_
        refine rj_iconst (v := 2) dX12_dateAt_53 rfl (by decide) ?_
        refine rj_iald dX12_dateAt_54 rfl (rj_lt hω (k := 396) rfl) (rj_sh hω ly_396) (vp_in_nI (n := 2) (rj_bl rfl) (rj_bl rfl)) ?_
        refine rj_istore (l' := [(5, .int ((mX12_lacksT μ).1 396 (2 : Int32).toNatClampNeg)), (4, .int ((mX12_lacksT μ).1 396 (1 : Int32).toNatClampNeg)), (3, .int ((mX12_lacksT μ).1 396 (0 : Int32).toNatClampNeg)), (0, .ref (ω.2.2 395)), (1, .int a0), (2, .int a1)]) dX12_dateAt_55 rfl (rj_bl rfl) rfl ?_
        refine rj_iload_n 4 dX12_dateAt_57 rfl rfl ?_
        refine rj_sipush (v := 1440) dX12_dateAt_58 rfl (by decide) ?_
        refine rj_idiv dX12_dateAt_61 rfl (by decide) ?_
        refine rj_istore (l' := [(6, .int (a0 / 1440)), (5, .int ((mX12_lacksT μ).1 396 (2 : Int32).toNatClampNeg)), (4, .int ((mX12_lacksT μ).1 396 (1 : Int32).toNatClampNeg)), (3, .int ((mX12_lacksT μ).1 396 (0 : Int32).toNatClampNeg)), (0, .ref (ω.2.2 395)), (1, .int a0), (2, .int a1)]) dX12_dateAt_62 rfl (rj_bl rfl) rfl ?_
        refine rj_sub (l' := [(0, .ref (ω.2.2 395)), (1, .int a0), (2, .int a1), (3, .int ((mX12_lacksT μ).1 396 (0 : Int32).toNatClampNeg)), (4, .int ((mX12_lacksT μ).1 396 (1 : Int32).toNatClampNeg)), (5, .int ((mX12_lacksT μ).1 396 (2 : Int32).toNatClampNeg)), (6, .int (a0 / 1440))]) [4, 5, 6, 3, 2, 1, 0] rfl ?_
        refine lX12_dateAt_64u hω μ a0 a1    h1 h3 5 ((mX12_lacksT μ).1 396 (0 : Int32).toNatClampNeg) ((mX12_lacksT μ).1 396 (1 : Int32).toNatClampNeg) ((mX12_lacksT μ).1 396 (2 : Int32).toNatClampNeg) (a0 / 1440) (And.left hq4) ?_
        refine rj_iload_n 2 dX12_dateAt_114 rfl rfl ?_
        by_cases h9 : a1 = 0
        · refine rj_tableIn dX12_dateAt_115 (by rw [h9]; decide) (by rw [h9]; decide) (off := 33) (by rw [h9]; rfl) rfl ?_
          skip
          refine rj_iload_n 3 dX12_dateAt_148 rfl rfl ?_
          exact rj_iret dX12_dateAt_149 rfl (Nat.le_of_ble_eq_true rfl) (Nat.le_of_ble_eq_true rfl) ⟨(by unfold fX12_dateAt; rw [if_neg h1]; rw [if_neg h3]; rw [if_pos h9]; try rfl), rfl, (by unfold mX12_dateAt; rw [if_neg h1]; rw [if_neg h3]; rw [if_pos h9]; try rfl)⟩
        · skip
          by_cases h10 : a1 = 1
          · refine rj_tableIn dX12_dateAt_115 (by rw [h10]; decide) (by rw [h10]; decide) (off := 35) (by rw [h10]; rfl) rfl ?_
            skip
            refine rj_iload 4 dX12_dateAt_150 rfl rfl ?_
            exact rj_iret dX12_dateAt_152 rfl (Nat.le_of_ble_eq_true rfl) (Nat.le_of_ble_eq_true rfl) ⟨(by unfold fX12_dateAt; rw [if_neg h1]; rw [if_neg h3]; rw [if_neg h9]; rw [if_pos h10]; try rfl), rfl, (by unfold mX12_dateAt; rw [if_neg h1]; rw [if_neg h3]; rw [if_neg h9]; rw [if_pos h10]; try rfl)⟩
          · skip
            by_cases h11 : a1 = 2
            · refine rj_tableIn dX12_dateAt_115 (by rw [h11]; decide) (by rw [h11]; decide) (off := 38) (by rw [h11]; rfl) rfl ?_
              skip
              refine rj_iload 5 dX12_dateAt_153 rfl rfl ?_
              exact rj_iret dX12_dateAt_155 rfl (Nat.le_of_ble_eq_true rfl) (Nat.le_of_ble_eq_true rfl) ⟨(by unfold fX12_dateAt; rw [if_neg h1]; rw [if_neg h3]; rw [if_neg h9]; rw [if_neg h10]; rw [if_pos h11]; try rfl), rfl, (by unfold mX12_dateAt; rw [if_neg h1]; rw [if_neg h3]; rw [if_neg h9]; rw [if_neg h10]; rw [if_pos h11]; try rfl)⟩
            · skip
              by_cases h12 : a1 = 3
              · refine rj_tableIn dX12_dateAt_115 (by rw [h12]; decide) (by rw [h12]; decide) (off := 41) (by rw [h12]; rfl) rfl ?_
                skip
                refine rj_iload_n 3 dX12_dateAt_156 rfl rfl ?_
                refine rj_iload 4 dX12_dateAt_157 rfl rfl ?_
                refine rj_iload 5 dX12_dateAt_159 rfl rfl ?_
                refine rj_cS (rest := []) (sX12_weekday (g := g) (ω := ω) hω (mX12_lacksT μ) ((rj_we (bX12_dateAt_64 μ a0 a1) 5 (((mX12_lacksT μ).1 396 (0 : Int32).toNatClampNeg), ((mX12_lacksT μ).1 396 (1 : Int32).toNatClampNeg), ((mX12_lacksT μ).1 396 (2 : Int32).toNatClampNeg), (a0 / 1440))).1) ((rj_we (bX12_dateAt_64 μ a0 a1) 5 (((mX12_lacksT μ).1 396 (0 : Int32).toNatClampNeg), ((mX12_lacksT μ).1 396 (1 : Int32).toNatClampNeg), ((mX12_lacksT μ).1 396 (2 : Int32).toNatClampNeg), (a0 / 1440))).2.1) ((rj_we (bX12_dateAt_64 μ a0 a1) 5 (((mX12_lacksT μ).1 396 (0 : Int32).toNatClampNeg), ((mX12_lacksT μ).1 396 (1 : Int32).toNatClampNeg), ((mX12_lacksT μ).1 396 (2 : Int32).toNatClampNeg), (a0 / 1440))).2.2.1)   ) gX12_dateAt_X12_weekday rfl hSX12_weekday ⟨Nat.le_of_ble_eq_true rfl, Nat.le_of_ble_eq_true rfl⟩ dX12_dateAt_161 rfl rfl rfl (Nat.le_of_ble_eq_true rfl) rfl (Nat.le_of_ble_eq_true rfl) rfl ?_
                exact rj_iret dX12_dateAt_164 rfl (Nat.le_of_ble_eq_true rfl) (Nat.le_of_ble_eq_true rfl) ⟨(by unfold fX12_dateAt; rw [if_neg h1]; rw [if_neg h3]; rw [if_neg h9]; rw [if_neg h10]; rw [if_neg h11]; rw [if_pos h12]; try rfl), rfl, (by unfold mX12_dateAt; rw [if_neg h1]; rw [if_neg h3]; rw [if_neg h9]; rw [if_neg h10]; rw [if_neg h11]; rw [if_pos h12]; try rfl)⟩
              · skip
                by_cases h13 : a1 = 4
                · refine rj_tableIn dX12_dateAt_115 (by rw [h13]; decide) (by rw [h13]; decide) (off := 50) (by rw [h13]; rfl) rfl ?_
                  skip
                  refine rj_iload_n 1 dX12_dateAt_165 rfl rfl ?_
                  refine rj_sipush (v := 1440) dX12_dateAt_166 rfl (by decide) ?_
                  refine rj_irem dX12_dateAt_169 rfl (by decide) ?_
                  refine rj_bipush (v := 60) dX12_dateAt_170 rfl (by decide) ?_
                  refine rj_idiv dX12_dateAt_172 rfl (by decide) ?_
                  exact rj_iret dX12_dateAt_173 rfl (Nat.le_of_ble_eq_true rfl) (Nat.le_of_ble_eq_true rfl) ⟨(by unfold fX12_dateAt; rw [if_neg h1]; rw [if_neg h3]; rw [if_neg h9]; rw [if_neg h10]; rw [if_neg h11]; rw [if_neg h12]; rw [if_pos h13]; try rfl), rfl, (by unfold mX12_dateAt; rw [if_neg h1]; rw [if_neg h3]; rw [if_neg h9]; rw [if_neg h10]; rw [if_neg h11]; rw [if_neg h12]; rw [if_pos h13]; try rfl)⟩
                · skip
                  refine rj_tableOut dX12_dateAt_115 (by have b0 : a1.toInt ≠ 0 := fun z => h9 (Int32.toInt_inj.mp (z.trans rfl)); have b1 : a1.toInt ≠ 1 := fun z => h10 (Int32.toInt_inj.mp (z.trans rfl)); have b2 : a1.toInt ≠ 2 := fun z => h11 (Int32.toInt_inj.mp (z.trans rfl)); have b3 : a1.toInt ≠ 3 := fun z => h12 (Int32.toInt_inj.mp (z.trans rfl)); have b4 : a1.toInt ≠ 4 := fun z => h13 (Int32.toInt_inj.mp (z.trans rfl)); omega) rfl ?_
                  refine rj_iload_n 1 dX12_dateAt_174 rfl rfl ?_
                  refine rj_bipush (v := 60) dX12_dateAt_175 rfl (by decide) ?_
                  refine rj_irem dX12_dateAt_177 rfl (by decide) ?_
                  exact rj_iret dX12_dateAt_178 rfl (Nat.le_of_ble_eq_true rfl) (Nat.le_of_ble_eq_true rfl) ⟨(by unfold fX12_dateAt; rw [if_neg h1]; rw [if_neg h3]; rw [if_neg h9]; rw [if_neg h10]; rw [if_neg h11]; rw [if_neg h12]; rw [if_neg h13]; try rfl), rfl, (by unfold mX12_dateAt; rw [if_neg h1]; rw [if_neg h3]; rw [if_neg h9]; rw [if_neg h10]; rw [if_neg h11]; rw [if_neg h12]; rw [if_neg h13]; try rfl)⟩
      · exact absurd (by decide) h5
theorem hSX12_setOpen : yX12_setOpen.cls ≠ "java/lang/invoke/MethodHandle" ∧ yX12_setOpen.cls ≠ "java/lang/invoke/VarHandle" ∧ (parseMethodDescriptor yX12_setOpen.desc).map (fun d => d.parameters.length) = some 2 := by decide +kernel
theorem hVX12_setOpen : yX12_setOpen.cls = RX12 ∧ yX12_setOpen.cls ≠ "java/lang/invoke/MethodHandle" ∧ yX12_setOpen.cls ≠ "java/lang/invoke/VarHandle" ∧ (parseMethodDescriptor yX12_setOpen.desc).map (fun d => d.parameters.length) = some 2 := by decide +kernel
def fX12_setOpen (μ : rj_M) (a0 : Int32) (a1 : Int32) : Int32 := (if (fX12_lacks μ (fX12_isStage μ a0)) = 0 then (if a1 = 0 then (if (fX12_sets (mX12_lacks μ (fX12_isStage μ a0)) (3 + a0) 0) = 1 then 1 else 0) else (if (fX12_sets (mX12_lacks μ (fX12_isStage μ a0)) (3 + a0) 1) = 1 then 1 else 0)) else 0)
def mX12_setOpen (μ : rj_M) (a0 : Int32) (a1 : Int32) : rj_M := (if (fX12_lacks μ (fX12_isStage μ a0)) = 0 then (if a1 = 0 then (if (fX12_sets (mX12_lacks μ (fX12_isStage μ a0)) (3 + a0) 0) = 1 then (mX12_sets (mX12_lacks μ (fX12_isStage μ a0)) (3 + a0) 0) else (mX12_sets (mX12_lacks μ (fX12_isStage μ a0)) (3 + a0) 0)) else (if (fX12_sets (mX12_lacks μ (fX12_isStage μ a0)) (3 + a0) 1) = 1 then (mX12_sets (mX12_lacks μ (fX12_isStage μ a0)) (3 + a0) 1) else (mX12_sets (mX12_lacks μ (fX12_isStage μ a0)) (3 + a0) 1))) else (mX12_lacks μ (fX12_isStage μ a0)))
def qX12_setOpen (μ : rj_M) (a0 : Int32) (a1 : Int32) : Prop := ((((fX12_lacks μ (fX12_isStage μ a0)) = 0) → (((a1 = 0) → (vp_in (3 + a0) 625 ∧ qX12_sets (mX12_lacks μ (fX12_isStage μ a0)) (3 + a0) 0 ∧ True)) ∧ ((¬ (a1 = 0)) → (vp_in (3 + a0) 625 ∧ qX12_sets (mX12_lacks μ (fX12_isStage μ a0)) (3 + a0) 1 ∧ True)))) ∧ ((¬ ((fX12_lacks μ (fX12_isStage μ a0)) = 0)) → True))
set_option maxHeartbeats 40000000 in
set_option maxRecDepth 100000 in
theorem sX12_setOpen {g : rj_G} {ω : rj_W} (hω : rj_ok ω) (μ : rj_M) (a0 : Int32) (a1 : Int32)   (hq : qX12_setOpen μ a0 a1) : rj_Sp g yX12_setOpen wsX12_setOpen (rj_rm 3 0) [.ref (ω.2.2 395), .int a0, .int a1] ω μ (rj_D (.inl (some (.int (fX12_setOpen μ a0 a1)))) ω (mX12_setOpen μ a0 a1)) := by
  have hqa := hq
  unfold qX12_setOpen at hqa
  refine rj_of' (cc := cX12_setOpen) (nL := 3) (ret := (some .boolean)) (own := RX12) (l0 := [(0, .ref (ω.2.2 395)), (1, .int a0), (2, .int a1)]) rfl (by decide +kernel) rfl (Nat.le_of_ble_eq_true rfl) rfl ?_
  refine rj_aload_n 0 dX12_setOpen_0 rfl rfl ?_
  refine rj_iload_n 1 dX12_setOpen_1 rfl rfl ?_
  refine rj_cS (rest := [.ref (ω.2.2 395)]) (sX12_isStage (g := g) (ω := ω) hω μ a0   ) gX12_setOpen_X12_isStage rfl hSX12_isStage ⟨Nat.le_of_ble_eq_true rfl, Nat.le_of_ble_eq_true rfl⟩ dX12_setOpen_2 rfl rfl rfl (Nat.le_of_ble_eq_true rfl) rfl (Nat.le_of_ble_eq_true rfl) rfl ?_
  refine rj_cV (rest := []) (sX12_lacks (g := g) (ω := ω) hω μ (fX12_isStage μ a0)   ) gX12_setOpen_X12_lacks (rj_lt hω (k := 395) rfl) (rj_sh hω ly_395) rfl rfl hVX12_lacks ⟨Nat.le_of_ble_eq_true rfl, Nat.le_of_ble_eq_true rfl⟩ dX12_setOpen_5 rfl rfl rfl (Nat.le_of_ble_eq_true rfl) rfl (Nat.le_of_ble_eq_true rfl) rfl ?_
  refine rj_if_ne dX12_setOpen_8 rfl rfl (fun h1 => ?_) (fun h1 => ?_)
  · skip
    refine rj_iconst (v := 0) dX12_setOpen_35 rfl (by decide) ?_
    exact rj_zret dX12_setOpen_36 rfl rfl (Nat.le_of_ble_eq_true rfl) (Nat.le_of_ble_eq_true rfl) ⟨(by unfold fX12_setOpen; rw [if_neg h1]; try rfl), rfl, (by unfold mX12_setOpen; rw [if_neg h1]; try rfl)⟩
  · have hq2 := (And.left hqa) h1
    refine rj_aload_n 0 dX12_setOpen_11 rfl rfl ?_
    refine rj_iconst (v := 3) dX12_setOpen_12 rfl (by decide) ?_
    refine rj_iload_n 1 dX12_setOpen_13 rfl rfl ?_
    refine rj_iadd dX12_setOpen_14 rfl ?_
    refine rj_iload_n 2 dX12_setOpen_15 rfl rfl ?_
    refine rj_if_eq dX12_setOpen_16 rfl rfl (fun h2 => ?_) (fun h2 => ?_)
    · have hq3 := (And.left hq2) h2
      refine rj_iconst (v := 0) dX12_setOpen_23 rfl (by decide) ?_
      refine rj_cV (rest := []) (sX12_sets (g := g) (ω := ω) hω (mX12_lacks μ (fX12_isStage μ a0)) (3 + a0) 0  (And.left hq3) (And.left (And.right hq3))) gX12_setOpen_X12_sets (rj_lt hω (k := 395) rfl) (rj_sh hω ly_395) rfl rfl hVX12_sets ⟨Nat.le_of_ble_eq_true rfl, Nat.le_of_ble_eq_true rfl⟩ dX12_setOpen_24 rfl rfl rfl (Nat.le_of_ble_eq_true rfl) rfl (Nat.le_of_ble_eq_true rfl) rfl ?_
      refine rj_iconst (v := 1) dX12_setOpen_27 rfl (by decide) ?_
      refine rj_icmp_ne dX12_setOpen_28 rfl rfl (fun h3 => ?_) (fun h3 => ?_)
      · skip
        refine rj_iconst (v := 0) dX12_setOpen_35 rfl (by decide) ?_
        exact rj_zret dX12_setOpen_36 rfl rfl (Nat.le_of_ble_eq_true rfl) (Nat.le_of_ble_eq_true rfl) ⟨(by unfold fX12_setOpen; rw [if_pos h1]; rw [if_pos h2]; rw [if_neg h3]; try rfl), rfl, (by unfold mX12_setOpen; rw [if_pos h1]; rw [if_pos h2]; rw [if_neg h3]; try rfl)⟩
      · skip
        refine rj_iconst (v := 1) dX12_setOpen_31 rfl (by decide) ?_
        refine rj_goto dX12_setOpen_32 rfl ?_
        exact rj_zret dX12_setOpen_36 rfl rfl (Nat.le_of_ble_eq_true rfl) (Nat.le_of_ble_eq_true rfl) ⟨(by unfold fX12_setOpen; rw [if_pos h1]; rw [if_pos h2]; rw [if_pos h3]; try rfl), rfl, (by unfold mX12_setOpen; rw [if_pos h1]; rw [if_pos h2]; rw [if_pos h3]; try rfl)⟩
    · have hq6 := (And.right hq2) h2
      refine rj_iconst (v := 1) dX12_setOpen_19 rfl (by decide) ?_
      refine rj_goto dX12_setOpen_20 rfl ?_
      refine rj_cV (rest := []) (sX12_sets (g := g) (ω := ω) hω (mX12_lacks μ (fX12_isStage μ a0)) (3 + a0) 1  (And.left hq6) (And.left (And.right hq6))) gX12_setOpen_X12_sets (rj_lt hω (k := 395) rfl) (rj_sh hω ly_395) rfl rfl hVX12_sets ⟨Nat.le_of_ble_eq_true rfl, Nat.le_of_ble_eq_true rfl⟩ dX12_setOpen_24 rfl rfl rfl (Nat.le_of_ble_eq_true rfl) rfl (Nat.le_of_ble_eq_true rfl) rfl ?_
      refine rj_iconst (v := 1) dX12_setOpen_27 rfl (by decide) ?_
      refine rj_icmp_ne dX12_setOpen_28 rfl rfl (fun h4 => ?_) (fun h4 => ?_)
      · skip
        refine rj_iconst (v := 0) dX12_setOpen_35 rfl (by decide) ?_
        exact rj_zret dX12_setOpen_36 rfl rfl (Nat.le_of_ble_eq_true rfl) (Nat.le_of_ble_eq_true rfl) ⟨(by unfold fX12_setOpen; rw [if_pos h1]; rw [if_neg h2]; rw [if_neg h4]; try rfl), rfl, (by unfold mX12_setOpen; rw [if_pos h1]; rw [if_neg h2]; rw [if_neg h4]; try rfl)⟩
      · skip
        refine rj_iconst (v := 1) dX12_setOpen_31 rfl (by decide) ?_
        refine rj_goto dX12_setOpen_32 rfl ?_
        exact rj_zret dX12_setOpen_36 rfl rfl (Nat.le_of_ble_eq_true rfl) (Nat.le_of_ble_eq_true rfl) ⟨(by unfold fX12_setOpen; rw [if_pos h1]; rw [if_neg h2]; rw [if_pos h4]; try rfl), rfl, (by unfold mX12_setOpen; rw [if_pos h1]; rw [if_neg h2]; rw [if_pos h4]; try rfl)⟩
theorem nX12_setOpen (μ : rj_M) (a0 : Int32) (a1 : Int32) : narrow .boolean (.int (fX12_setOpen μ a0 a1)) = .int (fX12_setOpen μ a0 a1) := by
  unfold fX12_setOpen
  split
  · split
    · split
      · rfl
      · rfl
    · split
      · rfl
      · rfl
  · rfl
