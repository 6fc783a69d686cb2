theorem hSX12_ticket : yX12_ticket.cls ≠ "java/lang/invoke/MethodHandle" ∧ yX12_ticket.cls ≠ "java/lang/invoke/VarHandle" ∧ (parseMethodDescriptor yX12_ticket.desc).map (fun d => d.parameters.length) = some 3 := by decide +kernel
theorem hVX12_ticket : yX12_ticket.cls = RX12 ∧ yX12_ticket.cls ≠ "java/lang/invoke/MethodHandle" ∧ yX12_ticket.cls ≠ "java/lang/invoke/VarHandle" ∧ (parseMethodDescriptor yX12_ticket.desc).map (fun d => d.parameters.length) = some 3 := by decide +kernel
theorem vX12_ticket_12 : ∀ w ∈ u_ws RX12 TX12 16, w ∈ wsX12_ticket := by decide +kernel
theorem kX12_ticket_9 : Cond.fieldLink RX12 9 (TX12 1).1 (TX12 1).2.1 (TX12 1).2.2.1 ∈ wsX12_ticket := by decide +kernel
noncomputable def fX12_ticket (μ : rj_M) (a0 : Int32) (a1 : Int32) (a2 : Int32) : Int32 := (if (fX12_isVisitor μ a0) = 0 then 0 else (if (fX12_isDay μ a1) = 0 then 0 else (if (fX12_no (mX12_lacksT μ) (fX12_in (mX12_lacksT μ) a2 0 120) 2) = 0 then (if ((mX12_no (mX12_lacksT μ) (fX12_in (mX12_lacksT μ) a2 0 120) 2).1 396 ((452 + (4 * a0)) + a1).toNatClampNeg) = (-1) then (if 6 ≤ a2 then (if 14 ≤ a2 then (if 65 ≤ a2 then (((8 * ((mX12_keeps (mX12_no (mX12_lacksT μ) (fX12_in (mX12_lacksT μ) a2 0 120) 2)).1 396 (448 + a1).toNatClampNeg)) + 5) / 10) else ((mX12_keeps (mX12_no (mX12_lacksT μ) (fX12_in (mX12_lacksT μ) a2 0 120) 2)).1 396 (448 + a1).toNatClampNeg)) else ((((mX12_keeps (mX12_no (mX12_lacksT μ) (fX12_in (mX12_lacksT μ) a2 0 120) 2)).1 396 (448 + a1).toNatClampNeg) + 1) / 2)) else 0) else 0) else 0)))
noncomputable def mX12_ticket (μ : rj_M) (a0 : Int32) (a1 : Int32) (a2 : Int32) : rj_M := (if (fX12_isVisitor μ a0) = 0 then (mX12_lacksF μ) else (if (fX12_isDay μ a1) = 0 then (mX12_lacksF μ) else (if (fX12_no (mX12_lacksT μ) (fX12_in (mX12_lacksT μ) a2 0 120) 2) = 0 then (if ((mX12_no (mX12_lacksT μ) (fX12_in (mX12_lacksT μ) a2 0 120) 2).1 396 ((452 + (4 * a0)) + a1).toNatClampNeg) = (-1) then (if 6 ≤ a2 then (if 14 ≤ a2 then (if 65 ≤ a2 then (mX12_pays (rj_pi (mX12_keeps (mX12_no (mX12_lacksT μ) (fX12_in (mX12_lacksT μ) a2 0 120) 2)) 396 ((452 + (4 * a0)) + a1).toNatClampNeg (((8 * ((mX12_keeps (mX12_no (mX12_lacksT μ) (fX12_in (mX12_lacksT μ) a2 0 120) 2)).1 396 (448 + a1).toNatClampNeg)) + 5) / 10)) (1 + a0) 0 (((8 * ((mX12_keeps (mX12_no (mX12_lacksT μ) (fX12_in (mX12_lacksT μ) a2 0 120) 2)).1 396 (448 + a1).toNatClampNeg)) + 5) / 10)) else (mX12_pays (rj_pi (mX12_keeps (mX12_no (mX12_lacksT μ) (fX12_in (mX12_lacksT μ) a2 0 120) 2)) 396 ((452 + (4 * a0)) + a1).toNatClampNeg ((mX12_keeps (mX12_no (mX12_lacksT μ) (fX12_in (mX12_lacksT μ) a2 0 120) 2)).1 396 (448 + a1).toNatClampNeg)) (1 + a0) 0 ((mX12_keeps (mX12_no (mX12_lacksT μ) (fX12_in (mX12_lacksT μ) a2 0 120) 2)).1 396 (448 + a1).toNatClampNeg))) else (mX12_pays (rj_pi (mX12_keeps (mX12_no (mX12_lacksT μ) (fX12_in (mX12_lacksT μ) a2 0 120) 2)) 396 ((452 + (4 * a0)) + a1).toNatClampNeg ((((mX12_keeps (mX12_no (mX12_lacksT μ) (fX12_in (mX12_lacksT μ) a2 0 120) 2)).1 396 (448 + a1).toNatClampNeg) + 1) / 2)) (1 + a0) 0 ((((mX12_keeps (mX12_no (mX12_lacksT μ) (fX12_in (mX12_lacksT μ) a2 0 120) 2)).1 396 (448 + a1).toNatClampNeg) + 1) / 2))) else (mX12_pays (rj_pi (mX12_keeps (mX12_no (mX12_lacksT μ) (fX12_in (mX12_lacksT μ) a2 0 120) 2)) 396 ((452 + (4 * a0)) + a1).toNatClampNeg 0) (1 + a0) 0 0)) else (mX12_noF (mX12_no (mX12_lacksT μ) (fX12_in (mX12_lacksT μ) a2 0 120) 2) 3)) else (mX12_no (mX12_lacksT μ) (fX12_in (mX12_lacksT μ) a2 0 120) 2))))
noncomputable def qX12_ticket (μ : rj_M) (a0 : Int32) (a1 : Int32) (a2 : Int32) : Prop := ((((fX12_isVisitor μ a0) = 0) → True) ∧ ((¬ ((fX12_isVisitor μ a0) = 0)) → ((((fX12_isDay μ a1) = 0) → True) ∧ ((¬ ((fX12_isDay μ a1) = 0)) → ((((fX12_no (mX12_lacksT μ) (fX12_in (mX12_lacksT μ) a2 0 120) 2) = 0) → (((((mX12_no (mX12_lacksT μ) (fX12_in (mX12_lacksT μ) a2 0 120) 2).1 396 ((452 + (4 * a0)) + a1).toNatClampNeg) = (-1)) → (qX12_keeps (mX12_no (mX12_lacksT μ) (fX12_in (mX12_lacksT μ) a2 0 120) 2) ∧ True)) ∧ ((¬ (((mX12_no (mX12_lacksT μ) (fX12_in (mX12_lacksT μ) a2 0 120) 2).1 396 ((452 + (4 * a0)) + a1).toNatClampNeg) = (-1))) → True))) ∧ ((¬ ((fX12_no (mX12_lacksT μ) (fX12_in (mX12_lacksT μ) a2 0 120) 2) = 0)) → True))))))
set_option maxHeartbeats 40000000 in
set_option maxRecDepth 100000 in
theorem sX12_ticket {g : rj_G} {ω : rj_W} (hω : rj_ok ω) (μ : rj_M) (a0 : Int32) (a1 : Int32) (a2 : Int32)   (hq : qX12_ticket μ a0 a1 a2) : rj_Sp g yX12_ticket wsX12_ticket (rj_rm 2 0) [.ref (ω.2.2 395), .int a0, .int a1, .int a2] ω μ (rj_D (.inl (some (.int (fX12_ticket μ a0 a1 a2)))) ω (mX12_ticket μ a0 a1 a2)) := by
  have hqa := hq
  unfold qX12_ticket at hqa
  refine rj_of' (cc := cX12_ticket) (nL := 7) (ret := (some .int)) (own := RX12) (l0 := [(0, .ref (ω.2.2 395)), (1, .int a0), (2, .int a1), (3, .int a2)]) rfl (by decide +kernel) rfl (Nat.le_of_ble_eq_true rfl) rfl ?_
  refine rj_sipush (v := 452) dX12_ticket_0 rfl (by decide) ?_
  refine rj_iconst (v := 4) dX12_ticket_3 rfl (by decide) ?_
  refine rj_iload_n 1 dX12_ticket_4 rfl rfl ?_
  refine rj_imul dX12_ticket_5 rfl ?_
  refine rj_iadd dX12_ticket_6 rfl ?_
  refine rj_iload_n 2 dX12_ticket_7 rfl rfl ?_
  refine rj_iadd dX12_ticket_8 rfl ?_
  refine rj_istore (l' := [(4, .int ((452 + (4 * a0)) + a1)), (0, .ref (ω.2.2 395)), (1, .int a0), (2, .int a1), (3, .int a2)]) dX12_ticket_9 rfl (rj_bl rfl) rfl ?_
  refine rj_aload_n 1 dX12_ticket_11 rfl rfl ?_
  refine rj_iload_n 2 dX12_ticket_12 rfl rfl ?_
  refine rj_cS (rest := [.ref (ω.2.2 395)]) (sX12_isVisitor (g := g) (ω := ω) hω μ a0   ) gX12_ticket_X12_isVisitor rfl hSX12_isVisitor ⟨Nat.le_of_ble_eq_true rfl, Nat.le_of_ble_eq_true rfl⟩ dX12_ticket_13 rfl rfl rfl (Nat.le_of_ble_eq_true rfl) rfl (Nat.le_of_ble_eq_true rfl) rfl ?_
  refine rj_if_eq dX12_ticket_16 rfl rfl (fun h1 => ?_) (fun h1 => ?_)
  · skip
    refine rj_iconst (v := 0) dX12_ticket_30 rfl (by decide) ?_
    refine rj_cV (rest := []) (sX12_lacksF (g := g) (ω := ω) hω μ   ) gX12_ticket_X12_lacks (rj_lt hω (k := 395) rfl) (rj_sh hω ly_395) rfl rfl hVX12_lacks ⟨Nat.le_of_ble_eq_true rfl, Nat.le_of_ble_eq_true rfl⟩ dX12_ticket_31 rfl rfl rfl (Nat.le_of_ble_eq_true rfl) rfl (Nat.le_of_ble_eq_true rfl) rfl ?_
    refine rj_if_ne dX12_ticket_34 rfl rfl (fun h2 => ?_) (fun h2 => ?_)
    · refine rj_iconst (v := 0) dX12_ticket_76 rfl (by decide) ?_
      exact rj_iret dX12_ticket_77 rfl (Nat.le_of_ble_eq_true rfl) (Nat.le_of_ble_eq_true rfl) ⟨(by unfold fX12_ticket; rw [if_pos h1]; try rfl), rfl, (by unfold mX12_ticket; rw [if_pos h1]; try rfl)⟩
    · exact absurd h2 (by decide)
  · have hq2 := (And.right hqa) h1
    refine rj_iload_n 3 dX12_ticket_19 rfl rfl ?_
    refine rj_cS (rest := [.ref (ω.2.2 395)]) (sX12_isDay (g := g) (ω := ω) hω μ a1   ) gX12_ticket_X12_isDay rfl hSX12_isDay ⟨Nat.le_of_ble_eq_true rfl, Nat.le_of_ble_eq_true rfl⟩ dX12_ticket_20 rfl rfl rfl (Nat.le_of_ble_eq_true rfl) rfl (Nat.le_of_ble_eq_true rfl) rfl ?_
    refine rj_if_eq dX12_ticket_23 rfl rfl (fun h3 => ?_) (fun h3 => ?_)
    · skip
      refine rj_iconst (v := 0) dX12_ticket_30 rfl (by decide) ?_
      refine rj_cV (rest := []) (sX12_lacksF (g := g) (ω := ω) hω μ   ) gX12_ticket_X12_lacks (rj_lt hω (k := 395) rfl) (rj_sh hω ly_395) rfl rfl hVX12_lacks ⟨Nat.le_of_ble_eq_true rfl, Nat.le_of_ble_eq_true rfl⟩ dX12_ticket_31 rfl rfl rfl (Nat.le_of_ble_eq_true rfl) rfl (Nat.le_of_ble_eq_true rfl) rfl ?_
      refine rj_if_ne dX12_ticket_34 rfl rfl (fun h4 => ?_) (fun h4 => ?_)
      · refine rj_iconst (v := 0) dX12_ticket_76 rfl (by decide) ?_
        exact rj_iret dX12_ticket_77 rfl (Nat.le_of_ble_eq_true rfl) (Nat.le_of_ble_eq_true rfl) ⟨(by unfold fX12_ticket; rw [if_neg h1]; rw [if_pos h3]; try rfl), rfl, (by unfold mX12_ticket; rw [if_neg h1]; rw [if_pos h3]; try rfl)⟩
      · exact absurd h4 (by decide)
    · have hq4 := (And.right hq2) h3
      refine rj_iconst (v := 1) dX12_ticket_26 rfl (by decide) ?_
      refine rj_goto dX12_ticket_27 rfl ?_
      refine rj_cV (rest := []) (sX12_lacksT (g := g) (ω := ω) hω μ   ) gX12_ticket_X12_lacks (rj_lt hω (k := 395) rfl) (rj_sh hω ly_395) rfl rfl hVX12_lacks ⟨Nat.le_of_ble_eq_true rfl, Nat.le_of_ble_eq_true rfl⟩ dX12_ticket_31 rfl rfl rfl (Nat.le_of_ble_eq_true rfl) rfl (Nat.le_of_ble_eq_true rfl) rfl ?_
      refine rj_if_ne dX12_ticket_34 rfl rfl (fun h5 => ?_) (fun h5 => ?_)
      · exact absurd (by decide) h5
      · refine rj_aload_n 1 dX12_ticket_37 rfl rfl ?_
        refine rj_iload_n 4 dX12_ticket_38 rfl rfl ?_
        refine rj_iconst (v := 0) dX12_ticket_39 rfl (by decide) ?_
        refine rj_bipush (v := 120) dX12_ticket_40 rfl (by decide) ?_
        refine rj_cS (rest := [.ref (ω.2.2 395)]) (sX12_in (g := g) (ω := ω) hω (mX12_lacksT μ) a2 0 120   ) gX12_ticket_X12_in rfl hSX12_in ⟨Nat.le_of_ble_eq_true rfl, Nat.le_of_ble_eq_true rfl⟩ dX12_ticket_42 rfl rfl rfl (Nat.le_of_ble_eq_true rfl) rfl (Nat.le_of_ble_eq_true rfl) rfl ?_
        refine rj_iconst (v := 2) dX12_ticket_45 rfl (by decide) ?_
        refine rj_cV (rest := []) (sX12_no (g := g) (ω := ω) hω (mX12_lacksT μ) (fX12_in (mX12_lacksT μ) a2 0 120) 2   ) gX12_ticket_X12_no (rj_lt hω (k := 395) rfl) (rj_sh hω ly_395) rfl rfl hVX12_no ⟨Nat.le_of_ble_eq_true rfl, Nat.le_of_ble_eq_true rfl⟩ dX12_ticket_46 rfl rfl rfl (Nat.le_of_ble_eq_true rfl) rfl (Nat.le_of_ble_eq_true rfl) rfl ?_
        refine rj_if_ne dX12_ticket_49 rfl rfl (fun h6 => ?_) (fun h6 => ?_)
        · skip
          refine rj_iconst (v := 0) dX12_ticket_76 rfl (by decide) ?_
          exact rj_iret dX12_ticket_77 rfl (Nat.le_of_ble_eq_true rfl) (Nat.le_of_ble_eq_true rfl) ⟨(by unfold fX12_ticket; rw [if_neg h1]; rw [if_neg h3]; rw [if_neg h6]; try rfl), rfl, (by unfold mX12_ticket; rw [if_neg h1]; rw [if_neg h3]; rw [if_neg h6]; try rfl)⟩
        · have hq6 := (And.left hq4) h6
          refine rj_aload_n 1 dX12_ticket_52 rfl rfl ?_
          refine rj_aload_n 1 dX12_ticket_53 rfl rfl ?_
          refine rj_getR (C0 := RX12) (T := TX12) (N := 16) (j := 1) (r := 396) dX12_ticket_54 rfl vX12_ticket_12 rfl (rj_lt hω (k := 395) rfl) (rj_sh hω ly_395) (by decide) kX12_ticket_9 rfl ?_
          refine rj_iload 0 dX12_ticket_57 rfl rfl ?_
          refine rj_iald dX12_ticket_59 rfl (rj_lt hω (k := 396) rfl) (rj_sh hω ly_396) (rj_vle (rj_vadd (N := 500) (rj_vadd (N := 497) (vp_in_nI (n := 452) (N := 453) (rj_bl rfl) (rj_bl rfl)) (rj_vmul (k := 4) (N := 45) (rj_isVisitor h1) rfl rfl) rfl rfl) (rj_isDay h3) rfl rfl) rfl) ?_
          refine rj_iconst (v := (-1)) dX12_ticket_60 rfl (by decide) ?_
          refine rj_icmp_ne dX12_ticket_61 rfl rfl (fun h7 => ?_) (fun h7 => ?_)
          · skip
            refine rj_iconst (v := 0) dX12_ticket_68 rfl (by decide) ?_
            refine rj_iconst (v := 3) dX12_ticket_69 rfl (by decide) ?_
            refine rj_cV (rest := []) (sX12_noF (g := g) (ω := ω) hω (mX12_no (mX12_lacksT μ) (fX12_in (mX12_lacksT μ) a2 0 120) 2) 3   ) gX12_ticket_X12_no (rj_lt hω (k := 395) rfl) (rj_sh hω ly_395) rfl rfl hVX12_no ⟨Nat.le_of_ble_eq_true rfl, Nat.le_of_ble_eq_true rfl⟩ dX12_ticket_70 rfl rfl rfl (Nat.le_of_ble_eq_true rfl) rfl (Nat.le_of_ble_eq_true rfl) rfl ?_
            refine rj_if_eq dX12_ticket_73 rfl rfl (fun h8 => ?_) (fun h8 => ?_)
            · exact absurd h8 (by decide)
            · refine rj_iconst (v := 0) dX12_ticket_76 rfl (by decide) ?_
              exact rj_iret dX12_ticket_77 rfl (Nat.le_of_ble_eq_true rfl) (Nat.le_of_ble_eq_true rfl) ⟨(by unfold fX12_ticket; rw [if_neg h1]; rw [if_neg h3]; rw [if_pos h6]; rw [if_neg h7]; try rfl), rfl, (by unfold mX12_ticket; rw [if_neg h1]; rw [if_neg h3]; rw [if_pos h6]; rw [if_neg h7]; try rfl)⟩
          · have hq8 := (And.left hq6) h7
            refine rj_iconst (v := 1) dX12_ticket_64 rfl (by decide) ?_
            refine rj_goto dX12_ticket_65 rfl ?_
            refine rj_iconst (v := 3) dX12_ticket_69 rfl (by decide) ?_
            refine rj_cV (rest := []) (sX12_noT (g := g) (ω := ω) hω (mX12_no (mX12_lacksT μ) (fX12_in (mX12_lacksT μ) a2 0 120) 2) 3   ) gX12_ticket_X12_no (rj_lt hω (k := 395) rfl) (rj_sh hω ly_395) rfl rfl hVX12_no ⟨Nat.le_of_ble_eq_true rfl, Nat.le_of_ble_eq_true rfl⟩ dX12_ticket_70 rfl rfl rfl (Nat.le_of_ble_eq_true rfl) rfl (Nat.le_of_ble_eq_true rfl) rfl ?_
            refine rj_if_eq dX12_ticket_73 rfl rfl (fun h9 => ?_) (fun h9 => ?_)
            · refine rj_aload_n 1 dX12_ticket_78 rfl rfl ?_
              refine rj_cV (rest := []) (sX12_keeps (g := g) (ω := ω) hω (mX12_no (mX12_lacksT μ) (fX12_in (mX12_lacksT μ) a2 0 120) 2)   (And.left hq8)) gX12_ticket_X12_keeps (rj_lt hω (k := 395) rfl) (rj_sh hω ly_395) rfl rfl hVX12_keeps ⟨Nat.le_of_ble_eq_true rfl, Nat.le_of_ble_eq_true rfl⟩ dX12_ticket_79 rfl rfl rfl (Nat.le_of_ble_eq_true rfl) rfl (Nat.le_of_ble_eq_true rfl) rfl ?_
              refine rj_aload_n 1 dX12_ticket_82 rfl rfl ?_
              refine rj_getR (C0 := RX12) (T := TX12) (N := 16) (j := 1) (r := 396) dX12_ticket_83 rfl vX12_ticket_12 rfl (rj_lt hω (k := 395) rfl) (rj_sh hω ly_395) (by decide) kX12_ticket_9 rfl ?_
              refine rj_sipush (v := 448) dX12_ticket_86 rfl (by decide) ?_
              refine rj_iload_n 3 dX12_ticket_89 rfl rfl ?_
              refine rj_iadd dX12_ticket_90 rfl ?_
              refine rj_iald dX12_ticket_91 rfl (rj_lt hω (k := 396) rfl) (rj_sh hω ly_396) (rj_vle (rj_vadd (N := 452) (vp_in_nI (n := 448) (N := 449) (rj_bl rfl) (rj_bl rfl)) (rj_isDay h3) rfl rfl) rfl) ?_
              refine rj_istore (l' := [(5, .int ((mX12_keeps (mX12_no (mX12_lacksT μ) (fX12_in (mX12_lacksT μ) a2 0 120) 2)).1 396 (448 + a1).toNatClampNeg)), (4, .int ((452 + (4 * a0)) + a1)), (0, .ref (ω.2.2 395)), (1, .int a0), (2, .int a1), (3, .int a2)]) dX12_ticket_92 rfl (rj_bl rfl) rfl ?_
              refine rj_iload_n 5 dX12_ticket_94 rfl rfl ?_
              refine rj_bipush (v := 6) dX12_ticket_95 rfl (by decide) ?_
              refine rj_icmp_ge dX12_ticket_97 rfl rfl (fun h10 => ?_) (fun h10 => ?_)
              · skip
                refine rj_iload_n 5 dX12_ticket_104 rfl rfl ?_
                refine rj_bipush (v := 14) dX12_ticket_105 rfl (by decide) ?_
                refine rj_icmp_ge dX12_ticket_107 rfl rfl (fun h11 => ?_) (fun h11 => ?_)
                · skip
                  refine rj_iload_n 5 dX12_ticket_119 rfl rfl ?_
                  refine rj_bipush (v := 65) dX12_ticket_120 rfl (by decide) ?_
                  refine rj_icmp_ge dX12_ticket_122 rfl rfl (fun h12 => ?_) (fun h12 => ?_)
                  · skip
                    refine rj_bipush (v := 8) dX12_ticket_130 rfl (by decide) ?_
                    refine rj_iload 0 dX12_ticket_132 rfl rfl ?_
                    refine rj_imul dX12_ticket_134 rfl ?_
                    refine rj_iconst (v := 5) dX12_ticket_135 rfl (by decide) ?_
                    refine rj_iadd dX12_ticket_136 rfl ?_
                    refine rj_bipush (v := 10) dX12_ticket_137 rfl (by decide) ?_
                    refine rj_idiv dX12_ticket_139 rfl (by decide) ?_
                    refine rj_istore (l' := [(6, .int (((8 * ((mX12_keeps (mX12_no (mX12_lacksT μ) (fX12_in (mX12_lacksT μ) a2 0 120) 2)).1 396 (448 + a1).toNatClampNeg)) + 5) / 10)), (5, .int ((mX12_keeps (mX12_no (mX12_lacksT μ) (fX12_in (mX12_lacksT μ) a2 0 120) 2)).1 396 (448 + a1).toNatClampNeg)), (4, .int ((452 + (4 * a0)) + a1)), (0, .ref (ω.2.2 395)), (1, .int a0), (2, .int a1), (3, .int a2)]) dX12_ticket_140 rfl (rj_bl rfl) rfl ?_
                    refine rj_aload_n 3 dX12_ticket_142 rfl rfl ?_
                    refine rj_getR (C0 := RX12) (T := TX12) (N := 16) (j := 1) (r := 396) dX12_ticket_143 rfl vX12_ticket_12 rfl (rj_lt hω (k := 395) rfl) (rj_sh hω ly_395) (by decide) kX12_ticket_9 rfl ?_
                    refine rj_iload 2 dX12_ticket_146 rfl rfl ?_
                    refine rj_iload 0 dX12_ticket_148 rfl rfl ?_
                    refine rj_iast dX12_ticket_150 rfl (rj_lt hω (k := 396) rfl) (rj_sh hω ly_396) (rj_vle (rj_vadd (N := 500) (rj_vadd (N := 497) (vp_in_nI (n := 452) (N := 453) (rj_bl rfl) (rj_bl rfl)) (rj_vmul (k := 4) (N := 45) (rj_isVisitor h1) rfl rfl) rfl rfl) (rj_isDay h3) rfl rfl) rfl) ?_
                    refine rj_aload_n 3 dX12_ticket_151 rfl rfl ?_
                    refine rj_iconst (v := 1) dX12_ticket_152 rfl (by decide) ?_
                    refine rj_iload_n 4 dX12_ticket_153 rfl rfl ?_
                    refine rj_iadd dX12_ticket_154 rfl ?_
                    refine rj_iconst (v := 0) dX12_ticket_155 rfl (by decide) ?_
                    refine rj_iload 0 dX12_ticket_156 rfl rfl ?_
                    refine rj_cV (rest := []) (sX12_pays (g := g) (ω := ω) hω (rj_pi (mX12_keeps (mX12_no (mX12_lacksT μ) (fX12_in (mX12_lacksT μ) a2 0 120) 2)) 396 ((452 + (4 * a0)) + a1).toNatClampNeg (((8 * ((mX12_keeps (mX12_no (mX12_lacksT μ) (fX12_in (mX12_lacksT μ) a2 0 120) 2)).1 396 (448 + a1).toNatClampNeg)) + 5) / 10)) (1 + a0) 0 (((8 * ((mX12_keeps (mX12_no (mX12_lacksT μ) (fX12_in (mX12_lacksT μ) a2 0 120) 2)).1 396 (448 + a1).toNatClampNeg)) + 5) / 10)  (rj_vle (rj_vadd (N := 13) (vp_in_nI (n := 1) (N := 2) (rj_bl rfl) (rj_bl rfl)) (rj_isVisitor h1) rfl rfl) rfl) (vp_in_nI (n := 0) (rj_bl rfl) (rj_bl rfl)) ) gX12_ticket_X12_pays (rj_lt hω (k := 395) rfl) (rj_sh hω ly_395) rfl rfl hVX12_pays ⟨Nat.le_of_ble_eq_true rfl, Nat.le_of_ble_eq_true rfl⟩ dX12_ticket_158 rfl rfl rfl (Nat.le_of_ble_eq_true rfl) rfl (Nat.le_of_ble_eq_true rfl) rfl ?_
                    refine rj_iload 0 dX12_ticket_161 rfl rfl ?_
                    exact rj_iret dX12_ticket_163 rfl (Nat.le_of_ble_eq_true rfl) (Nat.le_of_ble_eq_true rfl) ⟨(by unfold fX12_ticket; rw [if_neg h1]; rw [if_neg h3]; rw [if_pos h6]; rw [if_pos h7]; rw [if_pos h10]; rw [if_pos h11]; rw [if_pos h12]; try rfl), rfl, (by unfold mX12_ticket; rw [if_neg h1]; rw [if_neg h3]; rw [if_pos h6]; rw [if_pos h7]; rw [if_pos h10]; rw [if_pos h11]; rw [if_pos h12]; try rfl)⟩
                  · skip
                    refine rj_iload 0 dX12_ticket_125 rfl rfl ?_
                    refine rj_goto dX12_ticket_127 rfl ?_
                    refine rj_istore (l' := [(6, .int ((mX12_keeps (mX12_no (mX12_lacksT μ) (fX12_in (mX12_lacksT μ) a2 0 120) 2)).1 396 (448 + a1).toNatClampNeg)), (5, .int ((mX12_keeps (mX12_no (mX12_lacksT μ) (fX12_in (mX12_lacksT μ) a2 0 120) 2)).1 396 (448 + a1).toNatClampNeg)), (4, .int ((452 + (4 * a0)) + a1)), (0, .ref (ω.2.2 395)), (1, .int a0), (2, .int a1), (3, .int a2)]) dX12_ticket_140 rfl (rj_bl rfl) rfl ?_
                    refine rj_aload_n 3 dX12_ticket_142 rfl rfl ?_
                    refine rj_getR (C0 := RX12) (T := TX12) (N := 16) (j := 1) (r := 396) dX12_ticket_143 rfl vX12_ticket_12 rfl (rj_lt hω (k := 395) rfl) (rj_sh hω ly_395) (by decide) kX12_ticket_9 rfl ?_
                    refine rj_iload 2 dX12_ticket_146 rfl rfl ?_
                    refine rj_iload 0 dX12_ticket_148 rfl rfl ?_
                    refine rj_iast dX12_ticket_150 rfl (rj_lt hω (k := 396) rfl) (rj_sh hω ly_396) (rj_vle (rj_vadd (N := 500) (rj_vadd (N := 497) (vp_in_nI (n := 452) (N := 453) (rj_bl rfl) (rj_bl rfl)) (rj_vmul (k := 4) (N := 45) (rj_isVisitor h1) rfl rfl) rfl rfl) (rj_isDay h3) rfl rfl) rfl) ?_
                    refine rj_aload_n 3 dX12_ticket_151 rfl rfl ?_
                    refine rj_iconst (v := 1) dX12_ticket_152 rfl (by decide) ?_
                    refine rj_iload_n 4 dX12_ticket_153 rfl rfl ?_
                    refine rj_iadd dX12_ticket_154 rfl ?_
                    refine rj_iconst (v := 0) dX12_ticket_155 rfl (by decide) ?_
                    refine rj_iload 0 dX12_ticket_156 rfl rfl ?_
                    refine rj_cV (rest := []) (sX12_pays (g := g) (ω := ω) hω (rj_pi (mX12_keeps (mX12_no (mX12_lacksT μ) (fX12_in (mX12_lacksT μ) a2 0 120) 2)) 396 ((452 + (4 * a0)) + a1).toNatClampNeg ((mX12_keeps (mX12_no (mX12_lacksT μ) (fX12_in (mX12_lacksT μ) a2 0 120) 2)).1 396 (448 + a1).toNatClampNeg)) (1 + a0) 0 ((mX12_keeps (mX12_no (mX12_lacksT μ) (fX12_in (mX12_lacksT μ) a2 0 120) 2)).1 396 (448 + a1).toNatClampNeg)  (rj_vle (rj_vadd (N := 13) (vp_in_nI (n := 1) (N := 2) (rj_bl rfl) (rj_bl rfl)) (rj_isVisitor h1) rfl rfl) rfl) (vp_in_nI (n := 0) (rj_bl rfl) (rj_bl rfl)) ) gX12_ticket_X12_pays (rj_lt hω (k := 395) rfl) (rj_sh hω ly_395) rfl rfl hVX12_pays ⟨Nat.le_of_ble_eq_true rfl, Nat.le_of_ble_eq_true rfl⟩ dX12_ticket_158 rfl rfl rfl (Nat.le_of_ble_eq_true rfl) rfl (Nat.le_of_ble_eq_true rfl) rfl ?_
                    refine rj_iload 0 dX12_ticket_161 rfl rfl ?_
                    exact rj_iret dX12_ticket_163 rfl (Nat.le_of_ble_eq_true rfl) (Nat.le_of_ble_eq_true rfl) ⟨(by unfold fX12_ticket; rw [if_neg h1]; rw [if_neg h3]; rw [if_pos h6]; rw [if_pos h7]; rw [if_pos h10]; rw [if_pos h11]; rw [if_neg h12]; try rfl), rfl, (by unfold mX12_ticket; rw [if_neg h1]; rw [if_neg h3]; rw [if_pos h6]; rw [if_pos h7]; rw [if_pos h10]; rw [if_pos h11]; rw [if_neg h12]; try rfl)⟩
                · skip
                  refine rj_iload 0 dX12_ticket_110 rfl rfl ?_
                  refine rj_iconst (v := 1) dX12_ticket_112 rfl (by decide) ?_
                  refine rj_iadd dX12_ticket_113 rfl ?_
                  refine rj_iconst (v := 2) dX12_ticket_114 rfl (by decide) ?_
                  refine rj_idiv dX12_ticket_115 rfl (by decide) ?_
                  refine rj_goto dX12_ticket_116 rfl ?_
                  refine rj_istore (l' := [(6, .int ((((mX12_keeps (mX12_no (mX12_lacksT μ) (fX12_in (mX12_lacksT μ) a2 0 120) 2)).1 396 (448 + a1).toNatClampNeg) + 1) / 2)), (5, .int ((mX12_keeps (mX12_no (mX12_lacksT μ) (fX12_in (mX12_lacksT μ) a2 0 120) 2)).1 396 (448 + a1).toNatClampNeg)), (4, .int ((452 + (4 * a0)) + a1)), (0, .ref (ω.2.2 395)), (1, .int a0), (2, .int a1), (3, .int a2)]) dX12_ticket_140 rfl (rj_bl rfl) rfl ?_
                  refine rj_aload_n 3 dX12_ticket_142 rfl rfl ?_
                  refine rj_getR (C0 := RX12) (T := TX12) (N := 16) (j := 1) (r := 396) dX12_ticket_143 rfl vX12_ticket_12 rfl (rj_lt hω (k := 395) rfl) (rj_sh hω ly_395) (by decide) kX12_ticket_9 rfl ?_
                  refine rj_iload 2 dX12_ticket_146 rfl rfl ?_
                  refine rj_iload 0 dX12_ticket_148 rfl rfl ?_
                  refine rj_iast dX12_ticket_150 rfl (rj_lt hω (k := 396) rfl) (rj_sh hω ly_396) (rj_vle (rj_vadd (N := 500) (rj_vadd (N := 497) (vp_in_nI (n := 452) (N := 453) (rj_bl rfl) (rj_bl rfl)) (rj_vmul (k := 4) (N := 45) (rj_isVisitor h1) rfl rfl) rfl rfl) (rj_isDay h3) rfl rfl) rfl) ?_
                  refine rj_aload_n 3 dX12_ticket_151 rfl rfl ?_
                  refine rj_iconst (v := 1) dX12_ticket_152 rfl (by decide) ?_
                  refine rj_iload_n 4 dX12_ticket_153 rfl rfl ?_
                  refine rj_iadd dX12_ticket_154 rfl ?_
                  refine rj_iconst (v := 0) dX12_ticket_155 rfl (by decide) ?_
                  refine rj_iload 0 dX12_ticket_156 rfl rfl ?_
                  refine rj_cV (rest := []) (sX12_pays (g := g) (ω := ω) hω (rj_pi (mX12_keeps (mX12_no (mX12_lacksT μ) (fX12_in (mX12_lacksT μ) a2 0 120) 2)) 396 ((452 + (4 * a0)) + a1).toNatClampNeg ((((mX12_keeps (mX12_no (mX12_lacksT μ) (fX12_in (mX12_lacksT μ) a2 0 120) 2)).1 396 (448 + a1).toNatClampNeg) + 1) / 2)) (1 + a0) 0 ((((mX12_keeps (mX12_no (mX12_lacksT μ) (fX12_in (mX12_lacksT μ) a2 0 120) 2)).1 396 (448 + a1).toNatClampNeg) + 1) / 2)  (rj_vle (rj_vadd (N := 13) (vp_in_nI (n := 1) (N := 2) (rj_bl rfl) (rj_bl rfl)) (rj_isVisitor h1) rfl rfl) rfl) (vp_in_nI (n := 0) (rj_bl rfl) (rj_bl rfl)) ) gX12_ticket_X12_pays (rj_lt hω (k := 395) rfl) (rj_sh hω ly_395) rfl rfl hVX12_pays ⟨Nat.le_of_ble_eq_true rfl, Nat.le_of_ble_eq_true rfl⟩ dX12_ticket_158 rfl rfl rfl (Nat.le_of_ble_eq_true rfl) rfl (Nat.le_of_ble_eq_true rfl) rfl ?_
                  refine rj_iload 0 dX12_ticket_161 rfl rfl ?_
                  exact rj_iret dX12_ticket_163 rfl (Nat.le_of_ble_eq_true rfl) (Nat.le_of_ble_eq_true rfl) ⟨(by unfold fX12_ticket; rw [if_neg h1]; rw [if_neg h3]; rw [if_pos h6]; rw [if_pos h7]; rw [if_pos h10]; rw [if_neg h11]; try rfl), rfl, (by unfold mX12_ticket; rw [if_neg h1]; rw [if_neg h3]; rw [if_pos h6]; rw [if_pos h7]; rw [if_pos h10]; rw [if_neg h11]; try rfl)⟩
              · skip
                refine rj_iconst (v := 0) dX12_ticket_100 rfl (by decide) ?_
                refine rj_goto dX12_ticket_101 rfl ?_
                refine rj_istore (l' := [(6, .int 0), (5, .int ((mX12_keeps (mX12_no (mX12_lacksT μ) (fX12_in (mX12_lacksT μ) a2 0 120) 2)).1 396 (448 + a1).toNatClampNeg)), (4, .int ((452 + (4 * a0)) + a1)), (0, .ref (ω.2.2 395)), (1, .int a0), (2, .int a1), (3, .int a2)]) dX12_ticket_140 rfl (rj_bl rfl) rfl ?_
                refine rj_aload_n 3 dX12_ticket_142 rfl rfl ?_
                refine rj_getR (C0 := RX12) (T := TX12) (N := 16) (j := 1) (r := 396) dX12_ticket_143 rfl vX12_ticket_12 rfl (rj_lt hω (k := 395) rfl) (rj_sh hω ly_395) (by decide) kX12_ticket_9 rfl ?_
                refine rj_iload 2 dX12_ticket_146 rfl rfl ?_
                refine rj_iload 0 dX12_ticket_148 rfl rfl ?_
                refine rj_iast dX12_ticket_150 rfl (rj_lt hω (k := 396) rfl) (rj_sh hω ly_396) (rj_vle (rj_vadd (N := 500) (rj_vadd (N := 497) (vp_in_nI (n := 452) (N := 453) (rj_bl rfl) (rj_bl rfl)) (rj_vmul (k := 4) (N := 45) (rj_isVisitor h1) rfl rfl) rfl rfl) (rj_isDay h3) rfl rfl) rfl) ?_
                refine rj_aload_n 3 dX12_ticket_151 rfl rfl ?_
                refine rj_iconst (v := 1) dX12_ticket_152 rfl (by decide) ?_
                refine rj_iload_n 4 dX12_ticket_153 rfl rfl ?_
                refine rj_iadd dX12_ticket_154 rfl ?_
                refine rj_iconst (v := 0) dX12_ticket_155 rfl (by decide) ?_
                refine rj_iload 0 dX12_ticket_156 rfl rfl ?_
                refine rj_cV (rest := []) (sX12_pays (g := g) (ω := ω) hω (rj_pi (mX12_keeps (mX12_no (mX12_lacksT μ) (fX12_in (mX12_lacksT μ) a2 0 120) 2)) 396 ((452 + (4 * a0)) + a1).toNatClampNeg 0) (1 + a0) 0 0  (rj_vle (rj_vadd (N := 13) (vp_in_nI (n := 1) (N := 2) (rj_bl rfl) (rj_bl rfl)) (rj_isVisitor h1) rfl rfl) rfl) (vp_in_nI (n := 0) (rj_bl rfl) (rj_bl rfl)) ) gX12_ticket_X12_pays (rj_lt hω (k := 395) rfl) (rj_sh hω ly_395) rfl rfl hVX12_pays ⟨Nat.le_of_ble_eq_true rfl, Nat.le_of_ble_eq_true rfl⟩ dX12_ticket_158 rfl rfl rfl (Nat.le_of_ble_eq_true rfl) rfl (Nat.le_of_ble_eq_true rfl) rfl ?_
                refine rj_iload 0 dX12_ticket_161 rfl rfl ?_
                exact rj_iret dX12_ticket_163 rfl (Nat.le_of_ble_eq_true rfl) (Nat.le_of_ble_eq_true rfl) ⟨(by unfold fX12_ticket; rw [if_neg h1]; rw [if_neg h3]; rw [if_pos h6]; rw [if_pos h7]; rw [if_neg h10]; try rfl), rfl, (by unfold mX12_ticket; rw [if_neg h1]; rw [if_neg h3]; rw [if_pos h6]; rw [if_pos h7]; rw [if_neg h10]; try rfl)⟩
            · exact absurd (by decide) h9
theorem hSX12_refund : yX12_refund.cls ≠ "java/lang/invoke/MethodHandle" ∧ yX12_refund.cls ≠ "java/lang/invoke/VarHandle" ∧ (parseMethodDescriptor yX12_refund.desc).map (fun d => d.parameters.length) = some 2 := by decide +kernel
theorem hVX12_refund : yX12_refund.cls = RX12 ∧ yX12_refund.cls ≠ "java/lang/invoke/MethodHandle" ∧ yX12_refund.cls ≠ "java/lang/invoke/VarHandle" ∧ (parseMethodDescriptor yX12_refund.desc).map (fun d => d.parameters.length) = some 2 := by decide +kernel
theorem vX12_refund_12 : ∀ w ∈ u_ws RX12 TX12 16, w ∈ wsX12_refund := by decide +kernel
theorem kX12_refund_9 : Cond.fieldLink RX12 9 (TX12 1).1 (TX12 1).2.1 (TX12 1).2.2.1 ∈ wsX12_refund := by decide +kernel
noncomputable def fX12_refund (μ : rj_M) (a0 : Int32) (a1 : Int32) : Int32 := (if (fX12_isVisitor μ a0) = 0 then 0 else (if (fX12_isDay μ a1) = 0 then 0 else (if ((mX12_lacksT μ).1 396 ((452 + (4 * a0)) + a1).toNatClampNeg) = (-1) then 0 else ((9 * ((mX12_keeps (mX12_lacksT μ)).1 396 ((452 + (4 * a0)) + a1).toNatClampNeg)) / 10))))
noncomputable def mX12_refund (μ : rj_M) (a0 : Int32) (a1 : Int32) : rj_M := (if (fX12_isVisitor μ a0) = 0 then (mX12_lacksF μ) else (if (fX12_isDay μ a1) = 0 then (mX12_lacksF μ) else (if ((mX12_lacksT μ).1 396 ((452 + (4 * a0)) + a1).toNatClampNeg) = (-1) then (mX12_noF (mX12_lacksT μ) 2) else (mX12_pays (rj_pi (mX12_keeps (mX12_lacksT μ)) 396 ((452 + (4 * a0)) + a1).toNatClampNeg (-1)) 0 (1 + a0) ((9 * ((mX12_keeps (mX12_lacksT μ)).1 396 ((452 + (4 * a0)) + a1).toNatClampNeg)) / 10)))))
noncomputable def qX12_refund (μ : rj_M) (a0 : Int32) (a1 : Int32) : Prop := ((((fX12_isVisitor μ a0) = 0) → True) ∧ ((¬ ((fX12_isVisitor μ a0) = 0)) → ((((fX12_isDay μ a1) = 0) → True) ∧ ((¬ ((fX12_isDay μ a1) = 0)) → (((((mX12_lacksT μ).1 396 ((452 + (4 * a0)) + a1).toNatClampNeg) = (-1)) → True) ∧ ((¬ (((mX12_lacksT μ).1 396 ((452 + (4 * a0)) + a1).toNatClampNeg) = (-1))) → (qX12_keeps (mX12_lacksT μ) ∧ True)))))))
set_option maxHeartbeats 40000000 in
set_option maxRecDepth 100000 in
theorem sX12_refund {g : rj_G} {ω : rj_W} (hω : rj_ok ω) (μ : rj_M) (a0 : Int32) (a1 : Int32)   (hq : qX12_refund μ a0 a1) : rj_Sp g yX12_refund wsX12_refund (rj_rm 2 0) [.ref (ω.2.2 395), .int a0, .int a1] ω μ (rj_D (.inl (some (.int (fX12_refund μ a0 a1)))) ω (mX12_refund μ a0 a1)) := by
  have hqa := hq
  unfold qX12_refund at hqa
  refine rj_of' (cc := cX12_refund) (nL := 5) (ret := (some .int)) (own := RX12) (l0 := [(0, .ref (ω.2.2 395)), (1, .int a0), (2, .int a1)]) rfl (by decide +kernel) rfl (Nat.le_of_ble_eq_true rfl) rfl ?_
  refine rj_sipush (v := 452) dX12_refund_0 rfl (by decide) ?_
  refine rj_iconst (v := 4) dX12_refund_3 rfl (by decide) ?_
  refine rj_iload_n 1 dX12_refund_4 rfl rfl ?_
  refine rj_imul dX12_refund_5 rfl ?_
  refine rj_iadd dX12_refund_6 rfl ?_
  refine rj_iload_n 2 dX12_refund_7 rfl rfl ?_
  refine rj_iadd dX12_refund_8 rfl ?_
  refine rj_istore_n (l' := [(3, .int ((452 + (4 * a0)) + a1)), (0, .ref (ω.2.2 395)), (1, .int a0), (2, .int a1)]) dX12_refund_9 rfl (rj_bl rfl) rfl ?_
  refine rj_aload_n 1 dX12_refund_10 rfl rfl ?_
  refine rj_iload_n 2 dX12_refund_11 rfl rfl ?_
  refine rj_cS (rest := [.ref (ω.2.2 395)]) (sX12_isVisitor (g := g) (ω := ω) hω μ a0   ) gX12_refund_X12_isVisitor rfl hSX12_isVisitor ⟨Nat.le_of_ble_eq_true rfl, Nat.le_of_ble_eq_true rfl⟩ dX12_refund_12 rfl rfl rfl (Nat.le_of_ble_eq_true rfl) rfl (Nat.le_of_ble_eq_true rfl) rfl ?_
  refine rj_if_eq dX12_refund_15 rfl rfl (fun h1 => ?_) (fun h1 => ?_)
  · skip
    refine rj_iconst (v := 0) dX12_refund_29 rfl (by decide) ?_
    refine rj_cV (rest := []) (sX12_lacksF (g := g) (ω := ω) hω μ   ) gX12_refund_X12_lacks (rj_lt hω (k := 395) rfl) (rj_sh hω ly_395) rfl rfl hVX12_lacks ⟨Nat.le_of_ble_eq_true rfl, Nat.le_of_ble_eq_true rfl⟩ dX12_refund_30 rfl rfl rfl (Nat.le_of_ble_eq_true rfl) rfl (Nat.le_of_ble_eq_true rfl) rfl ?_
    refine rj_if_ne dX12_refund_33 rfl rfl (fun h2 => ?_) (fun h2 => ?_)
    · refine rj_iconst (v := 0) dX12_refund_59 rfl (by decide) ?_
      exact rj_iret dX12_refund_60 rfl (Nat.le_of_ble_eq_true rfl) (Nat.le_of_ble_eq_true rfl) ⟨(by unfold fX12_refund; rw [if_pos h1]; try rfl), rfl, (by unfold mX12_refund; rw [if_pos h1]; try rfl)⟩
    · exact absurd h2 (by decide)
  · have hq2 := (And.right hqa) h1
    refine rj_iload_n 3 dX12_refund_18 rfl rfl ?_
    refine rj_cS (rest := [.ref (ω.2.2 395)]) (sX12_isDay (g := g) (ω := ω) hω μ a1   ) gX12_refund_X12_isDay rfl hSX12_isDay ⟨Nat.le_of_ble_eq_true rfl, Nat.le_of_ble_eq_true rfl⟩ dX12_refund_19 rfl rfl rfl (Nat.le_of_ble_eq_true rfl) rfl (Nat.le_of_ble_eq_true rfl) rfl ?_
    refine rj_if_eq dX12_refund_22 rfl rfl (fun h3 => ?_) (fun h3 => ?_)
    · skip
      refine rj_iconst (v := 0) dX12_refund_29 rfl (by decide) ?_
      refine rj_cV (rest := []) (sX12_lacksF (g := g) (ω := ω) hω μ   ) gX12_refund_X12_lacks (rj_lt hω (k := 395) rfl) (rj_sh hω ly_395) rfl rfl hVX12_lacks ⟨Nat.le_of_ble_eq_true rfl, Nat.le_of_ble_eq_true rfl⟩ dX12_refund_30 rfl rfl rfl (Nat.le_of_ble_eq_true rfl) rfl (Nat.le_of_ble_eq_true rfl) rfl ?_
      refine rj_if_ne dX12_refund_33 rfl rfl (fun h4 => ?_) (fun h4 => ?_)
      · refine rj_iconst (v := 0) dX12_refund_59 rfl (by decide) ?_
        exact rj_iret dX12_refund_60 rfl (Nat.le_of_ble_eq_true rfl) (Nat.le_of_ble_eq_true rfl) ⟨(by unfold fX12_refund; rw [if_neg h1]; rw [if_pos h3]; try rfl), rfl, (by unfold mX12_refund; rw [if_neg h1]; rw [if_pos h3]; try rfl)⟩
      · exact absurd h4 (by decide)
    · have hq4 := (And.right hq2) h3
      refine rj_iconst (v := 1) dX12_refund_25 rfl (by decide) ?_
      refine rj_goto dX12_refund_26 rfl ?_
      refine rj_cV (rest := []) (sX12_lacksT (g := g) (ω := ω) hω μ   ) gX12_refund_X12_lacks (rj_lt hω (k := 395) rfl) (rj_sh hω ly_395) rfl rfl hVX12_lacks ⟨Nat.le_of_ble_eq_true rfl, Nat.le_of_ble_eq_true rfl⟩ dX12_refund_30 rfl rfl rfl (Nat.le_of_ble_eq_true rfl) rfl (Nat.le_of_ble_eq_true rfl) rfl ?_
      refine rj_if_ne dX12_refund_33 rfl rfl (fun h5 => ?_) (fun h5 => ?_)
      · exact absurd (by decide) h5
      · refine rj_aload_n 1 dX12_refund_36 rfl rfl ?_
        refine rj_aload_n 1 dX12_refund_37 rfl rfl ?_
        refine rj_getR (C0 := RX12) (T := TX12) (N := 16) (j := 1) (r := 396) dX12_refund_38 rfl vX12_refund_12 rfl (rj_lt hω (k := 395) rfl) (rj_sh hω ly_395) (by decide) kX12_refund_9 rfl ?_
        refine rj_iload_n 0 dX12_refund_41 rfl rfl ?_
        refine rj_iald dX12_refund_42 rfl (rj_lt hω (k := 396) rfl) (rj_sh hω ly_396) (rj_vle (rj_vadd (N := 500) (rj_vadd (N := 497) (vp_in_nI (n := 452) (N := 453) (rj_bl rfl) (rj_bl rfl)) (rj_vmul (k := 4) (N := 45) (rj_isVisitor h1) rfl rfl) rfl rfl) (rj_isDay h3) rfl rfl) rfl) ?_
        refine rj_iconst (v := (-1)) dX12_refund_43 rfl (by decide) ?_
        refine rj_icmp_eq dX12_refund_44 rfl rfl (fun h6 => ?_) (fun h6 => ?_)
        · skip
          refine rj_iconst (v := 0) dX12_refund_51 rfl (by decide) ?_
          refine rj_iconst (v := 2) dX12_refund_52 rfl (by decide) ?_
          refine rj_cV (rest := []) (sX12_noF (g := g) (ω := ω) hω (mX12_lacksT μ) 2   ) gX12_refund_X12_no (rj_lt hω (k := 395) rfl) (rj_sh hω ly_395) rfl rfl hVX12_no ⟨Nat.le_of_ble_eq_true rfl, Nat.le_of_ble_eq_true rfl⟩ dX12_refund_53 rfl rfl rfl (Nat.le_of_ble_eq_true rfl) rfl (Nat.le_of_ble_eq_true rfl) rfl ?_
          refine rj_if_eq dX12_refund_56 rfl rfl (fun h7 => ?_) (fun h7 => ?_)
          · exact absurd h7 (by decide)
          · refine rj_iconst (v := 0) dX12_refund_59 rfl (by decide) ?_
            exact rj_iret dX12_refund_60 rfl (Nat.le_of_ble_eq_true rfl) (Nat.le_of_ble_eq_true rfl) ⟨(by unfold fX12_refund; rw [if_neg h1]; rw [if_neg h3]; rw [if_pos h6]; try rfl), rfl, (by unfold mX12_refund; rw [if_neg h1]; rw [if_neg h3]; rw [if_pos h6]; try rfl)⟩
        · have hq6 := (And.right hq4) h6
          refine rj_iconst (v := 1) dX12_refund_47 rfl (by decide) ?_
          refine rj_goto dX12_refund_48 rfl ?_
          refine rj_iconst (v := 2) dX12_refund_52 rfl (by decide) ?_
          refine rj_cV (rest := []) (sX12_noT (g := g) (ω := ω) hω (mX12_lacksT μ) 2   ) gX12_refund_X12_no (rj_lt hω (k := 395) rfl) (rj_sh hω ly_395) rfl rfl hVX12_no ⟨Nat.le_of_ble_eq_true rfl, Nat.le_of_ble_eq_true rfl⟩ dX12_refund_53 rfl rfl rfl (Nat.le_of_ble_eq_true rfl) rfl (Nat.le_of_ble_eq_true rfl) rfl ?_
          refine rj_if_eq dX12_refund_56 rfl rfl (fun h8 => ?_) (fun h8 => ?_)
          · refine rj_aload_n 1 dX12_refund_61 rfl rfl ?_
            refine rj_cV (rest := []) (sX12_keeps (g := g) (ω := ω) hω (mX12_lacksT μ)   (And.left hq6)) gX12_refund_X12_keeps (rj_lt hω (k := 395) rfl) (rj_sh hω ly_395) rfl rfl hVX12_keeps ⟨Nat.le_of_ble_eq_true rfl, Nat.le_of_ble_eq_true rfl⟩ dX12_refund_62 rfl rfl rfl (Nat.le_of_ble_eq_true rfl) rfl (Nat.le_of_ble_eq_true rfl) rfl ?_
            refine rj_bipush (v := 9) dX12_refund_65 rfl (by decide) ?_
            refine rj_aload_n 1 dX12_refund_67 rfl rfl ?_
            refine rj_getR (C0 := RX12) (T := TX12) (N := 16) (j := 1) (r := 396) dX12_refund_68 rfl vX12_refund_12 rfl (rj_lt hω (k := 395) rfl) (rj_sh hω ly_395) (by decide) kX12_refund_9 rfl ?_
            refine rj_iload_n 0 dX12_refund_71 rfl rfl ?_
            refine rj_iald dX12_refund_72 rfl (rj_lt hω (k := 396) rfl) (rj_sh hω ly_396) (rj_vle (rj_vadd (N := 500) (rj_vadd (N := 497) (vp_in_nI (n := 452) (N := 453) (rj_bl rfl) (rj_bl rfl)) (rj_vmul (k := 4) (N := 45) (rj_isVisitor h1) rfl rfl) rfl rfl) (rj_isDay h3) rfl rfl) rfl) ?_
            refine rj_imul dX12_refund_73 rfl ?_
            refine rj_bipush (v := 10) dX12_refund_74 rfl (by decide) ?_
            refine rj_idiv dX12_refund_76 rfl (by decide) ?_
            refine rj_istore (l' := [(4, .int ((9 * ((mX12_keeps (mX12_lacksT μ)).1 396 ((452 + (4 * a0)) + a1).toNatClampNeg)) / 10)), (3, .int ((452 + (4 * a0)) + a1)), (0, .ref (ω.2.2 395)), (1, .int a0), (2, .int a1)]) dX12_refund_77 rfl (rj_bl rfl) rfl ?_
            refine rj_aload_n 2 dX12_refund_79 rfl rfl ?_
            refine rj_getR (C0 := RX12) (T := TX12) (N := 16) (j := 1) (r := 396) dX12_refund_80 rfl vX12_refund_12 rfl (rj_lt hω (k := 395) rfl) (rj_sh hω ly_395) (by decide) kX12_refund_9 rfl ?_
            refine rj_iload_n 1 dX12_refund_83 rfl rfl ?_
            refine rj_iconst (v := (-1)) dX12_refund_84 rfl (by decide) ?_
            refine rj_iast dX12_refund_85 rfl (rj_lt hω (k := 396) rfl) (rj_sh hω ly_396) (rj_vle (rj_vadd (N := 500) (rj_vadd (N := 497) (vp_in_nI (n := 452) (N := 453) (rj_bl rfl) (rj_bl rfl)) (rj_vmul (k := 4) (N := 45) (rj_isVisitor h1) rfl rfl) rfl rfl) (rj_isDay h3) rfl rfl) rfl) ?_
            refine rj_aload_n 2 dX12_refund_86 rfl rfl ?_
            refine rj_iconst (v := 0) dX12_refund_87 rfl (by decide) ?_
            refine rj_iconst (v := 1) dX12_refund_88 rfl (by decide) ?_
            refine rj_iload_n 3 dX12_refund_89 rfl rfl ?_
            refine rj_iadd dX12_refund_90 rfl ?_
            refine rj_iload 0 dX12_refund_91 rfl rfl ?_
            refine rj_cV (rest := []) (sX12_pays (g := g) (ω := ω) hω (rj_pi (mX12_keeps (mX12_lacksT μ)) 396 ((452 + (4 * a0)) + a1).toNatClampNeg (-1)) 0 (1 + a0) ((9 * ((mX12_keeps (mX12_lacksT μ)).1 396 ((452 + (4 * a0)) + a1).toNatClampNeg)) / 10)  (vp_in_nI (n := 0) (rj_bl rfl) (rj_bl rfl)) (rj_vle (rj_vadd (N := 13) (vp_in_nI (n := 1) (N := 2) (rj_bl rfl) (rj_bl rfl)) (rj_isVisitor h1) rfl rfl) rfl) ) gX12_refund_X12_pays (rj_lt hω (k := 395) rfl) (rj_sh hω ly_395) rfl rfl hVX12_pays ⟨Nat.le_of_ble_eq_true rfl, Nat.le_of_ble_eq_true rfl⟩ dX12_refund_93 rfl rfl rfl (Nat.le_of_ble_eq_true rfl) rfl (Nat.le_of_ble_eq_true rfl) rfl ?_
            refine rj_iload 0 dX12_refund_96 rfl rfl ?_
            exact rj_iret dX12_refund_98 rfl (Nat.le_of_ble_eq_true rfl) (Nat.le_of_ble_eq_true rfl) ⟨(by unfold fX12_refund; rw [if_neg h1]; rw [if_neg h3]; rw [if_neg h6]; try rfl), rfl, (by unfold mX12_refund; rw [if_neg h1]; rw [if_neg h3]; rw [if_neg h6]; try rfl)⟩
          · exact absurd (by decide) h8
