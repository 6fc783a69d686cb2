theorem hSX12_resell : yX12_resell.cls ≠ "java/lang/invoke/MethodHandle" ∧ yX12_resell.cls ≠ "java/lang/invoke/VarHandle" ∧ (parseMethodDescriptor yX12_resell.desc).map (fun d => d.parameters.length) = some 3 := by decide +kernel
theorem hVX12_resell : yX12_resell.cls = RX12 ∧ yX12_resell.cls ≠ "java/lang/invoke/MethodHandle" ∧ yX12_resell.cls ≠ "java/lang/invoke/VarHandle" ∧ (parseMethodDescriptor yX12_resell.desc).map (fun d => d.parameters.length) = some 3 := by decide +kernel
theorem vX12_resell_12 : ∀ w ∈ u_ws RX12 TX12 16, w ∈ wsX12_resell := by decide +kernel
theorem kX12_resell_9 : Cond.fieldLink RX12 9 (TX12 1).1 (TX12 1).2.1 (TX12 1).2.2.1 ∈ wsX12_resell := by decide +kernel
noncomputable def fX12_resell (μ : rj_M) (a0 : Int32) (a1 : Int32) (a2 : Int32) : Int32 := (if (fX12_isVisitor μ a0) = 0 then 0 else (if (fX12_isVisitor μ a1) = 0 then 0 else (if (fX12_isDay μ a2) = 0 then 0 else (if ((mX12_lacksT μ).1 396 ((452 + (4 * a0)) + a2).toNatClampNeg) = (-1) then 0 else (if ((mX12_lacksT μ).1 396 ((452 + (4 * a1)) + a2).toNatClampNeg) = (-1) then ((mX12_keeps (mX12_lacksT μ)).1 396 ((452 + (4 * a0)) + a2).toNatClampNeg) else 0)))))
noncomputable def mX12_resell (μ : rj_M) (a0 : Int32) (a1 : Int32) (a2 : Int32) : rj_M := (if (fX12_isVisitor μ a0) = 0 then (mX12_lacksF μ) else (if (fX12_isVisitor μ a1) = 0 then (mX12_lacksF μ) else (if (fX12_isDay μ a2) = 0 then (mX12_lacksF μ) else (if ((mX12_lacksT μ).1 396 ((452 + (4 * a0)) + a2).toNatClampNeg) = (-1) then (mX12_noF (mX12_lacksT μ) 2) else (if ((mX12_lacksT μ).1 396 ((452 + (4 * a1)) + a2).toNatClampNeg) = (-1) then (mX12_pays (rj_pi (rj_pi (mX12_keeps (mX12_lacksT μ)) 396 ((452 + (4 * a1)) + a2).toNatClampNeg ((mX12_keeps (mX12_lacksT μ)).1 396 ((452 + (4 * a0)) + a2).toNatClampNeg)) 396 ((452 + (4 * a0)) + a2).toNatClampNeg (-1)) (1 + a1) (1 + a0) ((mX12_keeps (mX12_lacksT μ)).1 396 ((452 + (4 * a0)) + a2).toNatClampNeg)) else (mX12_noF (mX12_lacksT μ) 3))))))
noncomputable def qX12_resell (μ : rj_M) (a0 : Int32) (a1 : Int32) (a2 : Int32) : Prop := ((((fX12_isVisitor μ a0) = 0) → True) ∧ ((¬ ((fX12_isVisitor μ a0) = 0)) → ((((fX12_isVisitor μ a1) = 0) → True) ∧ ((¬ ((fX12_isVisitor μ a1) = 0)) → ((((fX12_isDay μ a2) = 0) → True) ∧ ((¬ ((fX12_isDay μ a2) = 0)) → (((((mX12_lacksT μ).1 396 ((452 + (4 * a0)) + a2).toNatClampNeg) = (-1)) → True) ∧ ((¬ (((mX12_lacksT μ).1 396 ((452 + (4 * a0)) + a2).toNatClampNeg) = (-1))) → (((((mX12_lacksT μ).1 396 ((452 + (4 * a1)) + a2).toNatClampNeg) = (-1)) → (qX12_keeps (mX12_lacksT μ) ∧ True)) ∧ ((¬ (((mX12_lacksT μ).1 396 ((452 + (4 * a1)) + a2).toNatClampNeg) = (-1))) → True))))))))))
set_option maxHeartbeats 40000000 in
set_option maxRecDepth 100000 in
theorem sX12_resell {g : rj_G} {ω : rj_W} (hω : rj_ok ω) (μ : rj_M) (a0 : Int32) (a1 : Int32) (a2 : Int32)   (hq : qX12_resell μ a0 a1 a2) : rj_Sp g yX12_resell wsX12_resell (rj_rm 2 0) [.ref (ω.2.2 395), .int a0, .int a1, .int a2] ω μ (rj_D (.inl (some (.int (fX12_resell μ a0 a1 a2)))) ω (mX12_resell μ a0 a1 a2)) := by
  have hqa := hq
  unfold qX12_resell at hqa
  refine rj_of' (cc := cX12_resell) (nL := 7) (ret := (some .int)) (own := RX12) (l0 := [(0, .ref (ω.2.2 395)), (1, .int a0), (2, .int a1), (3, .int a2)]) rfl (by decide +kernel) rfl (Nat.le_of_ble_eq_true rfl) rfl ?_
  refine rj_sipush (v := 452) dX12_resell_0 rfl (by decide) ?_
  refine rj_iconst (v := 4) dX12_resell_3 rfl (by decide) ?_
  refine rj_iload_n 1 dX12_resell_4 rfl rfl ?_
  refine rj_imul dX12_resell_5 rfl ?_
  refine rj_iadd dX12_resell_6 rfl ?_
  refine rj_iload_n 3 dX12_resell_7 rfl rfl ?_
  refine rj_iadd dX12_resell_8 rfl ?_
  refine rj_istore (l' := [(4, .int ((452 + (4 * a0)) + a2)), (0, .ref (ω.2.2 395)), (1, .int a0), (2, .int a1), (3, .int a2)]) dX12_resell_9 rfl (rj_bl rfl) rfl ?_
  refine rj_sipush (v := 452) dX12_resell_11 rfl (by decide) ?_
  refine rj_iconst (v := 4) dX12_resell_14 rfl (by decide) ?_
  refine rj_iload_n 3 dX12_resell_15 rfl rfl ?_
  refine rj_imul dX12_resell_16 rfl ?_
  refine rj_iadd dX12_resell_17 rfl ?_
  refine rj_iload_n 4 dX12_resell_18 rfl rfl ?_
  refine rj_iadd dX12_resell_19 rfl ?_
  refine rj_istore (l' := [(5, .int ((452 + (4 * a1)) + a2)), (4, .int ((452 + (4 * a0)) + a2)), (0, .ref (ω.2.2 395)), (1, .int a0), (2, .int a1), (3, .int a2)]) dX12_resell_20 rfl (rj_bl rfl) rfl ?_
  refine rj_aload_n 2 dX12_resell_22 rfl rfl ?_
  refine rj_iload_n 3 dX12_resell_23 rfl rfl ?_
  refine rj_cS (rest := [.ref (ω.2.2 395)]) (sX12_isVisitor (g := g) (ω := ω) hω μ a0   ) gX12_resell_X12_isVisitor rfl hSX12_isVisitor ⟨Nat.le_of_ble_eq_true rfl, Nat.le_of_ble_eq_true rfl⟩ dX12_resell_24 rfl rfl rfl (Nat.le_of_ble_eq_true rfl) rfl (Nat.le_of_ble_eq_true rfl) rfl ?_
  refine rj_if_eq dX12_resell_27 rfl rfl (fun h1 => ?_) (fun h1 => ?_)
  · skip
    refine rj_iconst (v := 0) dX12_resell_48 rfl (by decide) ?_
    refine rj_cV (rest := []) (sX12_lacksF (g := g) (ω := ω) hω μ   ) gX12_resell_X12_lacks (rj_lt hω (k := 395) rfl) (rj_sh hω ly_395) rfl rfl hVX12_lacks ⟨Nat.le_of_ble_eq_true rfl, Nat.le_of_ble_eq_true rfl⟩ dX12_resell_49 rfl rfl rfl (Nat.le_of_ble_eq_true rfl) rfl (Nat.le_of_ble_eq_true rfl) rfl ?_
    refine rj_if_ne dX12_resell_52 rfl rfl (fun h2 => ?_) (fun h2 => ?_)
    · refine rj_iconst (v := 0) dX12_resell_103 rfl (by decide) ?_
      exact rj_iret dX12_resell_104 rfl (Nat.le_of_ble_eq_true rfl) (Nat.le_of_ble_eq_true rfl) ⟨(by unfold fX12_resell; rw [if_pos h1]; try rfl), rfl, (by unfold mX12_resell; rw [if_pos h1]; try rfl)⟩
    · exact absurd h2 (by decide)
  · have hq2 := (And.right hqa) h1
    refine rj_iload_n 4 dX12_resell_30 rfl rfl ?_
    refine rj_cS (rest := [.ref (ω.2.2 395)]) (sX12_isVisitor (g := g) (ω := ω) hω μ a1   ) gX12_resell_X12_isVisitor rfl hSX12_isVisitor ⟨Nat.le_of_ble_eq_true rfl, Nat.le_of_ble_eq_true rfl⟩ dX12_resell_31 rfl rfl rfl (Nat.le_of_ble_eq_true rfl) rfl (Nat.le_of_ble_eq_true rfl) rfl ?_
    refine rj_if_eq dX12_resell_34 rfl rfl (fun h3 => ?_) (fun h3 => ?_)
    · skip
      refine rj_iconst (v := 0) dX12_resell_48 rfl (by decide) ?_
      refine rj_cV (rest := []) (sX12_lacksF (g := g) (ω := ω) hω μ   ) gX12_resell_X12_lacks (rj_lt hω (k := 395) rfl) (rj_sh hω ly_395) rfl rfl hVX12_lacks ⟨Nat.le_of_ble_eq_true rfl, Nat.le_of_ble_eq_true rfl⟩ dX12_resell_49 rfl rfl rfl (Nat.le_of_ble_eq_true rfl) rfl (Nat.le_of_ble_eq_true rfl) rfl ?_
      refine rj_if_ne dX12_resell_52 rfl rfl (fun h4 => ?_) (fun h4 => ?_)
      · refine rj_iconst (v := 0) dX12_resell_103 rfl (by decide) ?_
        exact rj_iret dX12_resell_104 rfl (Nat.le_of_ble_eq_true rfl) (Nat.le_of_ble_eq_true rfl) ⟨(by unfold fX12_resell; rw [if_neg h1]; rw [if_pos h3]; try rfl), rfl, (by unfold mX12_resell; rw [if_neg h1]; rw [if_pos h3]; try rfl)⟩
      · exact absurd h4 (by decide)
    · have hq4 := (And.right hq2) h3
      refine rj_iload_n 5 dX12_resell_37 rfl rfl ?_
      refine rj_cS (rest := [.ref (ω.2.2 395)]) (sX12_isDay (g := g) (ω := ω) hω μ a2   ) gX12_resell_X12_isDay rfl hSX12_isDay ⟨Nat.le_of_ble_eq_true rfl, Nat.le_of_ble_eq_true rfl⟩ dX12_resell_38 rfl rfl rfl (Nat.le_of_ble_eq_true rfl) rfl (Nat.le_of_ble_eq_true rfl) rfl ?_
      refine rj_if_eq dX12_resell_41 rfl rfl (fun h5 => ?_) (fun h5 => ?_)
      · skip
        refine rj_iconst (v := 0) dX12_resell_48 rfl (by decide) ?_
        refine rj_cV (rest := []) (sX12_lacksF (g := g) (ω := ω) hω μ   ) gX12_resell_X12_lacks (rj_lt hω (k := 395) rfl) (rj_sh hω ly_395) rfl rfl hVX12_lacks ⟨Nat.le_of_ble_eq_true rfl, Nat.le_of_ble_eq_true rfl⟩ dX12_resell_49 rfl rfl rfl (Nat.le_of_ble_eq_true rfl) rfl (Nat.le_of_ble_eq_true rfl) rfl ?_
        refine rj_if_ne dX12_resell_52 rfl rfl (fun h6 => ?_) (fun h6 => ?_)
        · refine rj_iconst (v := 0) dX12_resell_103 rfl (by decide) ?_
          exact rj_iret dX12_resell_104 rfl (Nat.le_of_ble_eq_true rfl) (Nat.le_of_ble_eq_true rfl) ⟨(by unfold fX12_resell; rw [if_neg h1]; rw [if_neg h3]; rw [if_pos h5]; try rfl), rfl, (by unfold mX12_resell; rw [if_neg h1]; rw [if_neg h3]; rw [if_pos h5]; try rfl)⟩
        · exact absurd h6 (by decide)
      · have hq6 := (And.right hq4) h5
        refine rj_iconst (v := 1) dX12_resell_44 rfl (by decide) ?_
        refine rj_goto dX12_resell_45 rfl ?_
        refine rj_cV (rest := []) (sX12_lacksT (g := g) (ω := ω) hω μ   ) gX12_resell_X12_lacks (rj_lt hω (k := 395) rfl) (rj_sh hω ly_395) rfl rfl hVX12_lacks ⟨Nat.le_of_ble_eq_true rfl, Nat.le_of_ble_eq_true rfl⟩ dX12_resell_49 rfl rfl rfl (Nat.le_of_ble_eq_true rfl) rfl (Nat.le_of_ble_eq_true rfl) rfl ?_
        refine rj_if_ne dX12_resell_52 rfl rfl (fun h7 => ?_) (fun h7 => ?_)
        · exact absurd (by decide) h7
        · refine rj_aload_n 2 dX12_resell_55 rfl rfl ?_
          refine rj_aload_n 2 dX12_resell_56 rfl rfl ?_
          refine rj_getR (C0 := RX12) (T := TX12) (N := 16) (j := 1) (r := 396) dX12_resell_57 rfl vX12_resell_12 rfl (rj_lt hω (k := 395) rfl) (rj_sh hω ly_395) (by decide) kX12_resell_9 rfl ?_
          refine rj_iload 1 dX12_resell_60 rfl rfl ?_
          refine rj_iald dX12_resell_62 rfl (rj_lt hω (k := 396) rfl) (rj_sh hω ly_396) (rj_vle (rj_vadd (N := 500) (rj_vadd (N := 497) (vp_in_nI (n := 452) (N := 453) (rj_bl rfl) (rj_bl rfl)) (rj_vmul (k := 4) (N := 45) (rj_isVisitor h1) rfl rfl) rfl rfl) (rj_isDay h5) rfl rfl) rfl) ?_
          refine rj_iconst (v := (-1)) dX12_resell_63 rfl (by decide) ?_
          refine rj_icmp_eq dX12_resell_64 rfl rfl (fun h8 => ?_) (fun h8 => ?_)
          · skip
            refine rj_iconst (v := 0) dX12_resell_71 rfl (by decide) ?_
            refine rj_iconst (v := 2) dX12_resell_72 rfl (by decide) ?_
            refine rj_cV (rest := []) (sX12_noF (g := g) (ω := ω) hω (mX12_lacksT μ) 2   ) gX12_resell_X12_no (rj_lt hω (k := 395) rfl) (rj_sh hω ly_395) rfl rfl hVX12_no ⟨Nat.le_of_ble_eq_true rfl, Nat.le_of_ble_eq_true rfl⟩ dX12_resell_73 rfl rfl rfl (Nat.le_of_ble_eq_true rfl) rfl (Nat.le_of_ble_eq_true rfl) rfl ?_
            refine rj_if_ne dX12_resell_76 rfl rfl (fun h9 => ?_) (fun h9 => ?_)
            · refine rj_iconst (v := 0) dX12_resell_103 rfl (by decide) ?_
              exact rj_iret dX12_resell_104 rfl (Nat.le_of_ble_eq_true rfl) (Nat.le_of_ble_eq_true rfl) ⟨(by unfold fX12_resell; rw [if_neg h1]; rw [if_neg h3]; rw [if_neg h5]; rw [if_pos h8]; try rfl), rfl, (by unfold mX12_resell; rw [if_neg h1]; rw [if_neg h3]; rw [if_neg h5]; rw [if_pos h8]; try rfl)⟩
            · exact absurd h9 (by decide)
          · have hq8 := (And.right hq6) h8
            refine rj_iconst (v := 1) dX12_resell_67 rfl (by decide) ?_
            refine rj_goto dX12_resell_68 rfl ?_
            refine rj_iconst (v := 2) dX12_resell_72 rfl (by decide) ?_
            refine rj_cV (rest := []) (sX12_noT (g := g) (ω := ω) hω (mX12_lacksT μ) 2   ) gX12_resell_X12_no (rj_lt hω (k := 395) rfl) (rj_sh hω ly_395) rfl rfl hVX12_no ⟨Nat.le_of_ble_eq_true rfl, Nat.le_of_ble_eq_true rfl⟩ dX12_resell_73 rfl rfl rfl (Nat.le_of_ble_eq_true rfl) rfl (Nat.le_of_ble_eq_true rfl) rfl ?_
            refine rj_if_ne dX12_resell_76 rfl rfl (fun h10 => ?_) (fun h10 => ?_)
            · exact absurd (by decide) h10
            · refine rj_aload_n 2 dX12_resell_79 rfl rfl ?_
              refine rj_aload_n 2 dX12_resell_80 rfl rfl ?_
              refine rj_getR (C0 := RX12) (T := TX12) (N := 16) (j := 1) (r := 396) dX12_resell_81 rfl vX12_resell_12 rfl (rj_lt hω (k := 395) rfl) (rj_sh hω ly_395) (by decide) kX12_resell_9 rfl ?_
              refine rj_iload 0 dX12_resell_84 rfl rfl ?_
              refine rj_iald dX12_resell_86 rfl (rj_lt hω (k := 396) rfl) (rj_sh hω ly_396) (rj_vle (rj_vadd (N := 500) (rj_vadd (N := 497) (vp_in_nI (n := 452) (N := 453) (rj_bl rfl) (rj_bl rfl)) (rj_vmul (k := 4) (N := 45) (rj_isVisitor h3) rfl rfl) rfl rfl) (rj_isDay h5) rfl rfl) rfl) ?_
              refine rj_iconst (v := (-1)) dX12_resell_87 rfl (by decide) ?_
              refine rj_icmp_ne dX12_resell_88 rfl rfl (fun h11 => ?_) (fun h11 => ?_)
              · skip
                refine rj_iconst (v := 0) dX12_resell_95 rfl (by decide) ?_
                refine rj_iconst (v := 3) dX12_resell_96 rfl (by decide) ?_
                refine rj_cV (rest := []) (sX12_noF (g := g) (ω := ω) hω (mX12_lacksT μ) 3   ) gX12_resell_X12_no (rj_lt hω (k := 395) rfl) (rj_sh hω ly_395) rfl rfl hVX12_no ⟨Nat.le_of_ble_eq_true rfl, Nat.le_of_ble_eq_true rfl⟩ dX12_resell_97 rfl rfl rfl (Nat.le_of_ble_eq_true rfl) rfl (Nat.le_of_ble_eq_true rfl) rfl ?_
                refine rj_if_eq dX12_resell_100 rfl rfl (fun h12 => ?_) (fun h12 => ?_)
                · exact absurd h12 (by decide)
                · refine rj_iconst (v := 0) dX12_resell_103 rfl (by decide) ?_
                  exact rj_iret dX12_resell_104 rfl (Nat.le_of_ble_eq_true rfl) (Nat.le_of_ble_eq_true rfl) ⟨(by unfold fX12_resell; rw [if_neg h1]; rw [if_neg h3]; rw [if_neg h5]; rw [if_neg h8]; rw [if_neg h11]; try rfl), rfl, (by unfold mX12_resell; rw [if_neg h1]; rw [if_neg h3]; rw [if_neg h5]; rw [if_neg h8]; rw [if_neg h11]; try rfl)⟩
              · have hq10 := (And.left hq8) h11
                refine rj_iconst (v := 1) dX12_resell_91 rfl (by decide) ?_
                refine rj_goto dX12_resell_92 rfl ?_
                refine rj_iconst (v := 3) dX12_resell_96 rfl (by decide) ?_
                refine rj_cV (rest := []) (sX12_noT (g := g) (ω := ω) hω (mX12_lacksT μ) 3   ) gX12_resell_X12_no (rj_lt hω (k := 395) rfl) (rj_sh hω ly_395) rfl rfl hVX12_no ⟨Nat.le_of_ble_eq_true rfl, Nat.le_of_ble_eq_true rfl⟩ dX12_resell_97 rfl rfl rfl (Nat.le_of_ble_eq_true rfl) rfl (Nat.le_of_ble_eq_true rfl) rfl ?_
                refine rj_if_eq dX12_resell_100 rfl rfl (fun h13 => ?_) (fun h13 => ?_)
                · refine rj_aload_n 2 dX12_resell_105 rfl rfl ?_
                  refine rj_cV (rest := []) (sX12_keeps (g := g) (ω := ω) hω (mX12_lacksT μ)   (And.left hq10)) gX12_resell_X12_keeps (rj_lt hω (k := 395) rfl) (rj_sh hω ly_395) rfl rfl hVX12_keeps ⟨Nat.le_of_ble_eq_true rfl, Nat.le_of_ble_eq_true rfl⟩ dX12_resell_106 rfl rfl rfl (Nat.le_of_ble_eq_true rfl) rfl (Nat.le_of_ble_eq_true rfl) rfl ?_
                  refine rj_aload_n 2 dX12_resell_109 rfl rfl ?_
                  refine rj_getR (C0 := RX12) (T := TX12) (N := 16) (j := 1) (r := 396) dX12_resell_110 rfl vX12_resell_12 rfl (rj_lt hω (k := 395) rfl) (rj_sh hω ly_395) (by decide) kX12_resell_9 rfl ?_
                  refine rj_iload 1 dX12_resell_113 rfl rfl ?_
                  refine rj_iald dX12_resell_115 rfl (rj_lt hω (k := 396) rfl) (rj_sh hω ly_396) (rj_vle (rj_vadd (N := 500) (rj_vadd (N := 497) (vp_in_nI (n := 452) (N := 453) (rj_bl rfl) (rj_bl rfl)) (rj_vmul (k := 4) (N := 45) (rj_isVisitor h1) rfl rfl) rfl rfl) (rj_isDay h5) rfl rfl) rfl) ?_
                  refine rj_istore (l' := [(6, .int ((mX12_keeps (mX12_lacksT μ)).1 396 ((452 + (4 * a0)) + a2).toNatClampNeg)), (5, .int ((452 + (4 * a1)) + a2)), (4, .int ((452 + (4 * a0)) + a2)), (0, .ref (ω.2.2 395)), (1, .int a0), (2, .int a1), (3, .int a2)]) dX12_resell_116 rfl (rj_bl rfl) rfl ?_
                  refine rj_aload_n 3 dX12_resell_118 rfl rfl ?_
                  refine rj_getR (C0 := RX12) (T := TX12) (N := 16) (j := 1) (r := 396) dX12_resell_119 rfl vX12_resell_12 rfl (rj_lt hω (k := 395) rfl) (rj_sh hω ly_395) (by decide) kX12_resell_9 rfl ?_
                  refine rj_iload 1 dX12_resell_122 rfl rfl ?_
                  refine rj_iload 0 dX12_resell_124 rfl rfl ?_
                  refine rj_iast dX12_resell_126 rfl (rj_lt hω (k := 396) rfl) (rj_sh hω ly_396) (rj_vle (rj_vadd (N := 500) (rj_vadd (N := 497) (vp_in_nI (n := 452) (N := 453) (rj_bl rfl) (rj_bl rfl)) (rj_vmul (k := 4) (N := 45) (rj_isVisitor h3) rfl rfl) rfl rfl) (rj_isDay h5) rfl rfl) rfl) ?_
                  refine rj_aload_n 3 dX12_resell_127 rfl rfl ?_
                  refine rj_getR (C0 := RX12) (T := TX12) (N := 16) (j := 1) (r := 396) dX12_resell_128 rfl vX12_resell_12 rfl (rj_lt hω (k := 395) rfl) (rj_sh hω ly_395) (by decide) kX12_resell_9 rfl ?_
                  refine rj_iload 2 dX12_resell_131 rfl rfl ?_
                  refine rj_iconst (v := (-1)) dX12_resell_133 rfl (by decide) ?_
                  refine rj_iast dX12_resell_134 rfl (rj_lt hω (k := 396) rfl) (rj_sh hω ly_396) (rj_vle (rj_vadd (N := 500) (rj_vadd (N := 497) (vp_in_nI (n := 452) (N := 453) (rj_bl rfl) (rj_bl rfl)) (rj_vmul (k := 4) (N := 45) (rj_isVisitor h1) rfl rfl) rfl rfl) (rj_isDay h5) rfl rfl) rfl) ?_
                  refine rj_aload_n 3 dX12_resell_135 rfl rfl ?_
                  refine rj_iconst (v := 1) dX12_resell_136 rfl (by decide) ?_
                  refine rj_iload_n 5 dX12_resell_137 rfl rfl ?_
                  refine rj_iadd dX12_resell_138 rfl ?_
                  refine rj_iconst (v := 1) dX12_resell_139 rfl (by decide) ?_
                  refine rj_iload_n 4 dX12_resell_140 rfl rfl ?_
                  refine rj_iadd dX12_resell_141 rfl ?_
                  refine rj_iload 0 dX12_resell_142 rfl rfl ?_
                  refine rj_cV (rest := []) (sX12_pays (g := g) (ω := ω) hω (rj_pi (rj_pi (mX12_keeps (mX12_lacksT μ)) 396 ((452 + (4 * a1)) + a2).toNatClampNeg ((mX12_keeps (mX12_lacksT μ)).1 396 ((452 + (4 * a0)) + a2).toNatClampNeg)) 396 ((452 + (4 * a0)) + a2).toNatClampNeg (-1)) (1 + a1) (1 + a0) ((mX12_keeps (mX12_lacksT μ)).1 396 ((452 + (4 * a0)) + a2).toNatClampNeg)  (rj_vle (rj_vadd (N := 13) (vp_in_nI (n := 1) (N := 2) (rj_bl rfl) (rj_bl rfl)) (rj_isVisitor h3) rfl rfl) rfl) (rj_vle (rj_vadd (N := 13) (vp_in_nI (n := 1) (N := 2) (rj_bl rfl) (rj_bl rfl)) (rj_isVisitor h1) rfl rfl) rfl) ) gX12_resell_X12_pays (rj_lt hω (k := 395) rfl) (rj_sh hω ly_395) rfl rfl hVX12_pays ⟨Nat.le_of_ble_eq_true rfl, Nat.le_of_ble_eq_true rfl⟩ dX12_resell_144 rfl rfl rfl (Nat.le_of_ble_eq_true rfl) rfl (Nat.le_of_ble_eq_true rfl) rfl ?_
                  refine rj_iload 0 dX12_resell_147 rfl rfl ?_
                  exact rj_iret dX12_resell_149 rfl (Nat.le_of_ble_eq_true rfl) (Nat.le_of_ble_eq_true rfl) ⟨(by unfold fX12_resell; rw [if_neg h1]; rw [if_neg h3]; rw [if_neg h5]; rw [if_neg h8]; rw [if_pos h11]; try rfl), rfl, (by unfold mX12_resell; rw [if_neg h1]; rw [if_neg h3]; rw [if_neg h5]; rw [if_neg h8]; rw [if_pos h11]; try rfl)⟩
                · exact absurd (by decide) h13
theorem hSX12_payBands : yX12_payBands.cls ≠ "java/lang/invoke/MethodHandle" ∧ yX12_payBands.cls ≠ "java/lang/invoke/VarHandle" ∧ (parseMethodDescriptor yX12_payBands.desc).map (fun d => d.parameters.length) = some 0 := by decide +kernel
theorem hVX12_payBands : yX12_payBands.cls = RX12 ∧ yX12_payBands.cls ≠ "java/lang/invoke/MethodHandle" ∧ yX12_payBands.cls ≠ "java/lang/invoke/VarHandle" ∧ (parseMethodDescriptor yX12_payBands.desc).map (fun d => d.parameters.length) = some 0 := by decide +kernel
theorem vX12_payBands_12 : ∀ w ∈ u_ws RX12 TX12 16, w ∈ wsX12_payBands := by decide +kernel
theorem kX12_payBands_39 : Cond.fieldLink RX12 39 (TX12 0).1 (TX12 0).2.1 (TX12 0).2.2.1 ∈ wsX12_payBands := by decide +kernel
theorem kX12_payBands_9 : Cond.fieldLink RX12 9 (TX12 1).1 (TX12 1).2.1 (TX12 1).2.2.1 ∈ wsX12_payBands := by decide +kernel
noncomputable def bX12_payBands_18 (μ : rj_M) (j18 : Nat) (s18 : Int32) : Int32 := (if (((fX12_lineup (mX12_keeps (rj_pi μ 395 0 0))) >>> ((nI j18) &&& 31)) &&& 1) = 1 then (s18 + (fJ6_bitCount_0f7a4 (mX12_lineup (mX12_keeps (rj_pi μ 395 0 0))) (fX12_its (mX12_lineup (mX12_keeps (rj_pi μ 395 0 0))) (nI j18) 5))) else (s18 + 0))
set_option maxHeartbeats 4000000 in
set_option maxRecDepth 100000 in
theorem lX12_payBands_18 {g : rj_G} {ω : rj_W} (hω : rj_ok ω) (μ : rj_M)      {F : rj_F} : ∀ (r j : Nat) (s : Int32), j + r = 16 → (rj_R g RX12 cX12_payBands 6 (some .int) wsX12_payBands [] (rj_rm 23 0) F 0 ω (mX12_lineup (mX12_keeps (rj_pi μ 395 0 0))) [(0, .ref (ω.2.2 395)), (1, .int (fX12_lineup (mX12_keeps (rj_pi μ 395 0 0)))), (2, .int (rj_fo (bX12_payBands_18 μ) r j s)), (3, .int (nI 16))] 55 []) → rj_R g RX12 cX12_payBands 6 (some .int) wsX12_payBands [] (rj_rm 23 0) F 0 ω (mX12_lineup (mX12_keeps (rj_pi μ 395 0 0))) [(0, .ref (ω.2.2 395)), (1, .int (fX12_lineup (mX12_keeps (rj_pi μ 395 0 0)))), (2, .int s), (3, .int (nI j))] 18 [] := by
  intro r
  induction r with
  | zero =>
    intro j s hj K
    have e0 : j = 16 := by omega
    have hge : 16 ≤ nI j := by
      rw [e0]
      exact Int32.le_refl _
    refine rj_iload_n 3 dX12_payBands_18 rfl rfl ?_
    refine rj_bipush (v := 16) dX12_payBands_19 rfl (by decide) ?_
    refine rj_icmp_ge dX12_payBands_21 rfl rfl (fun h3 => ?_) (fun h3 => ?_)
    · have e1 : nI j = nI 16 := by rw [e0]
      rw [e1]
      exact K
    · exact absurd hge h3
  | succ r ih =>
    intro j18 s18 hj K
    have hl18 : j18 < 16 := by omega
    have hg18 : ¬ 16 ≤ nI j18 := nI_ge hl18 (rj_bl rfl)
    refine rj_iload_n 3 dX12_payBands_18 rfl rfl ?_
    refine rj_bipush (v := 16) dX12_payBands_19 rfl (by decide) ?_
    refine rj_icmp_ge dX12_payBands_21 rfl rfl (fun h1 => ?_) (fun h1 => ?_)
    · exact absurd h1 hg18
    · refine rj_iload_n 2 dX12_payBands_24 rfl rfl ?_
      refine rj_iload_n 1 dX12_payBands_25 rfl rfl ?_
      refine rj_iload_n 3 dX12_payBands_26 rfl rfl ?_
      refine rj_ishr dX12_payBands_27 rfl ?_
      refine rj_iconst (v := 1) dX12_payBands_28 rfl (by decide) ?_
      refine rj_iand dX12_payBands_29 rfl ?_
      refine rj_iconst (v := 1) dX12_payBands_30 rfl (by decide) ?_
      refine rj_icmp_ne dX12_payBands_31 rfl rfl (fun h2 => ?_) (fun h2 => ?_)
      · skip
        refine rj_iconst (v := 0) dX12_payBands_46 rfl (by decide) ?_
        refine rj_iadd dX12_payBands_47 rfl ?_
        refine rj_istore_n (l' := [(2, .int (s18 + 0)), (0, .ref (ω.2.2 395)), (1, .int (fX12_lineup (mX12_keeps (rj_pi μ 395 0 0)))), (3, .int (nI j18))]) dX12_payBands_48 rfl (rj_bl rfl) rfl ?_
        refine rj_iinc (v := nI (j18 + 1)) (l' := [(3, .int (nI (j18 + 1))), (2, .int (s18 + 0)), (0, .ref (ω.2.2 395)), (1, .int (fX12_lineup (mX12_keeps (rj_pi μ 395 0 0))))]) 3 dX12_payBands_49 rfl rfl (nI_succ j18).symm (rj_bl rfl) rfl ?_
        refine rj_goto dX12_payBands_52 rfl ?_
        have e : bX12_payBands_18 μ j18 s18 = (s18 + 0) := by unfold bX12_payBands_18; rw [if_neg h2]; try rfl
        exact rj_sub (l' := [(0, .ref (ω.2.2 395)), (1, .int (fX12_lineup (mX12_keeps (rj_pi μ 395 0 0)))), (2, .int (s18 + 0)), (3, .int (nI (j18 + 1)))]) [2, 3, 1, 0] rfl (ih (j18 + 1) (s18 + 0) (by omega) (by rw [rj_fo_s (r := r), e] at K; exact K))
      · skip
        refine rj_aload_n 0 dX12_payBands_34 rfl rfl ?_
        refine rj_iload_n 3 dX12_payBands_35 rfl rfl ?_
        refine rj_iconst (v := 5) dX12_payBands_36 rfl (by decide) ?_
        refine rj_cV (rest := [.int s18]) (sX12_its (g := g) (ω := ω) hω (mX12_lineup (mX12_keeps (rj_pi μ 395 0 0))) (nI j18) 5  (vp_in_nI hl18 (rj_bl rfl)) (vp_in_nI (n := 5) (rj_bl rfl) (rj_bl rfl)) ) gX12_payBands_X12_its (rj_lt hω (k := 395) rfl) (rj_sh hω ly_395) rfl rfl hVX12_its ⟨Nat.le_of_ble_eq_true rfl, Nat.le_of_ble_eq_true rfl⟩ dX12_payBands_37 rfl rfl rfl (Nat.le_of_ble_eq_true rfl) rfl (Nat.le_of_ble_eq_true rfl) rfl ?_
        refine rj_cS (rest := [.int s18]) (sJ6_bitCount_0f7a4 (g := g) (ω := ω) (mX12_lineup (mX12_keeps (rj_pi μ 395 0 0))) (fX12_its (mX12_lineup (mX12_keeps (rj_pi μ 395 0 0))) (nI j18) 5)   ) gX12_payBands_J6_bitCount_0f7a4 rfl hSJ6_bitCount_0f7a4 ⟨Nat.le_of_ble_eq_true rfl, Nat.le_of_ble_eq_true rfl⟩ dX12_payBands_40 rfl rfl rfl (Nat.le_of_ble_eq_true rfl) rfl (Nat.le_of_ble_eq_true rfl) rfl ?_
        refine rj_goto dX12_payBands_43 rfl ?_
        refine rj_iadd dX12_payBands_47 rfl ?_
        refine rj_istore_n (l' := [(2, .int (s18 + (fJ6_bitCount_0f7a4 (mX12_lineup (mX12_keeps (rj_pi μ 395 0 0))) (fX12_its (mX12_lineup (mX12_keeps (rj_pi μ 395 0 0))) (nI j18) 5)))), (0, .ref (ω.2.2 395)), (1, .int (fX12_lineup (mX12_keeps (rj_pi μ 395 0 0)))), (3, .int (nI j18))]) dX12_payBands_48 rfl (rj_bl rfl) rfl ?_
        refine rj_iinc (v := nI (j18 + 1)) (l' := [(3, .int (nI (j18 + 1))), (2, .int (s18 + (fJ6_bitCount_0f7a4 (mX12_lineup (mX12_keeps (rj_pi μ 395 0 0))) (fX12_its (mX12_lineup (mX12_keeps (rj_pi μ 395 0 0))) (nI j18) 5)))), (0, .ref (ω.2.2 395)), (1, .int (fX12_lineup (mX12_keeps (rj_pi μ 395 0 0))))]) 3 dX12_payBands_49 rfl rfl (nI_succ j18).symm (rj_bl rfl) rfl ?_
        refine rj_goto dX12_payBands_52 rfl ?_
        have e : bX12_payBands_18 μ j18 s18 = (s18 + (fJ6_bitCount_0f7a4 (mX12_lineup (mX12_keeps (rj_pi μ 395 0 0))) (fX12_its (mX12_lineup (mX12_keeps (rj_pi μ 395 0 0))) (nI j18) 5))) := by unfold bX12_payBands_18; rw [if_pos h2]; try rfl
        exact rj_sub (l' := [(0, .ref (ω.2.2 395)), (1, .int (fX12_lineup (mX12_keeps (rj_pi μ 395 0 0)))), (2, .int (s18 + (fJ6_bitCount_0f7a4 (mX12_lineup (mX12_keeps (rj_pi μ 395 0 0))) (fX12_its (mX12_lineup (mX12_keeps (rj_pi μ 395 0 0))) (nI j18) 5)))), (3, .int (nI (j18 + 1)))]) [2, 3, 1, 0] rfl (ih (j18 + 1) (s18 + (fJ6_bitCount_0f7a4 (mX12_lineup (mX12_keeps (rj_pi μ 395 0 0))) (fX12_its (mX12_lineup (mX12_keeps (rj_pi μ 395 0 0))) (nI j18) 5))) (by omega) (by rw [rj_fo_s (r := r), e] at K; exact K))
noncomputable def bX12_payBands_98 (μ : rj_M) (j88 : Nat) (s88 : rj_M) (j98 : Nat) (s98 : rj_M) : rj_M := (if (((fX12_lineup (mX12_keeps (rj_pi μ 395 0 0))) >>> ((nI j88) &&& 31)) &&& 1) = 1 then (if (((fX12_its s98 (nI j88) 5) >>> ((nI j98) &&& 31)) &&& 1) = 1 then (mX12_pays s98 0 (13 + (nI j98)) 0) else s98) else s98)
set_option maxHeartbeats 4000000 in
set_option maxRecDepth 100000 in
theorem lX12_payBands_98 {g : rj_G} {ω : rj_W} (hω : rj_ok ω) (μ : rj_M) (j88 : Nat) (s88 : rj_M)   (hl88 : j88 < 16)  (h4 : ((rj_fo (bX12_payBands_18 μ) 16 0 0) ≤ 0)) (h5 : ¬ (16 ≤ nI j88)) {F : rj_F} : ∀ (r j : Nat) (s : rj_M), j + r = 12 → (rj_R g RX12 cX12_payBands 6 (some .int) wsX12_payBands [] (rj_rm 23 0) F 0 ω (rj_fo (bX12_payBands_98 μ j88 s88) r j s) [(0, .ref (ω.2.2 395)), (1, .int (fX12_lineup (mX12_keeps (rj_pi μ 395 0 0)))), (2, .int (rj_fo (bX12_payBands_18 μ) 16 0 0)), (3, .int 0), (4, .int (nI j88)), (5, .int (nI 12))] 148 []) → rj_R g RX12 cX12_payBands 6 (some .int) wsX12_payBands [] (rj_rm 23 0) F 0 ω s [(0, .ref (ω.2.2 395)), (1, .int (fX12_lineup (mX12_keeps (rj_pi μ 395 0 0)))), (2, .int (rj_fo (bX12_payBands_18 μ) 16 0 0)), (3, .int 0), (4, .int (nI j88)), (5, .int (nI j))] 98 [] := by
  intro r
  induction r with
  | zero =>
    intro j s hj K
    have e0 : j = 12 := by omega
    have hge : 12 ≤ nI j := by
      rw [e0]
      exact Int32.le_refl _
    refine rj_iload 5 dX12_payBands_98 rfl rfl ?_
    refine rj_bipush (v := 12) dX12_payBands_100 rfl (by decide) ?_
    refine rj_icmp_ge dX12_payBands_102 rfl rfl (fun h9 => ?_) (fun h9 => ?_)
    · have e1 : nI j = nI 12 := by rw [e0]
      rw [e1]
      exact K
    · exact absurd hge h9
  | succ r ih =>
    intro j98 s98 hj K
    have hl98 : j98 < 12 := by omega
    have hg98 : ¬ 12 ≤ nI j98 := nI_ge hl98 (rj_bl rfl)
    refine rj_iload 5 dX12_payBands_98 rfl rfl ?_
    refine rj_bipush (v := 12) dX12_payBands_100 rfl (by decide) ?_
    refine rj_icmp_ge dX12_payBands_102 rfl rfl (fun h6 => ?_) (fun h6 => ?_)
    · exact absurd h6 hg98
    · refine rj_iload_n 1 dX12_payBands_105 rfl rfl ?_
      refine rj_iload 4 dX12_payBands_106 rfl rfl ?_
      refine rj_ishr dX12_payBands_108 rfl ?_
      refine rj_iconst (v := 1) dX12_payBands_109 rfl (by decide) ?_
      refine rj_iand dX12_payBands_110 rfl ?_
      refine rj_iconst (v := 1) dX12_payBands_111 rfl (by decide) ?_
      refine rj_icmp_ne dX12_payBands_112 rfl rfl (fun h7 => ?_) (fun h7 => ?_)
      · skip
        refine rj_iinc (v := nI (j98 + 1)) (l' := [(5, .int (nI (j98 + 1))), (0, .ref (ω.2.2 395)), (1, .int (fX12_lineup (mX12_keeps (rj_pi μ 395 0 0)))), (2, .int (rj_fo (bX12_payBands_18 μ) 16 0 0)), (3, .int 0), (4, .int (nI j88))]) 5 dX12_payBands_142 rfl rfl (nI_succ j98).symm (rj_bl rfl) rfl ?_
        refine rj_goto dX12_payBands_145 rfl ?_
        have e : bX12_payBands_98 μ j88 s88 j98 s98 = s98 := by unfold bX12_payBands_98; rw [if_neg h7]; try rfl
        exact rj_sub (l' := [(0, .ref (ω.2.2 395)), (1, .int (fX12_lineup (mX12_keeps (rj_pi μ 395 0 0)))), (2, .int (rj_fo (bX12_payBands_18 μ) 16 0 0)), (3, .int 0), (4, .int (nI j88)), (5, .int (nI (j98 + 1)))]) [1, 2, 3, 4, 5, 0] rfl (ih (j98 + 1) s98 (by omega) (by rw [rj_fo_s (r := r), e] at K; exact K))
      · skip
        refine rj_aload_n 0 dX12_payBands_115 rfl rfl ?_
        refine rj_iload 4 dX12_payBands_116 rfl rfl ?_
        refine rj_iconst (v := 5) dX12_payBands_118 rfl (by decide) ?_
        refine rj_cV (rest := []) (sX12_its (g := g) (ω := ω) hω s98 (nI j88) 5  (vp_in_nI hl88 (rj_bl rfl)) (vp_in_nI (n := 5) (rj_bl rfl) (rj_bl rfl)) ) gX12_payBands_X12_its (rj_lt hω (k := 395) rfl) (rj_sh hω ly_395) rfl rfl hVX12_its ⟨Nat.le_of_ble_eq_true rfl, Nat.le_of_ble_eq_true rfl⟩ dX12_payBands_119 rfl rfl rfl (Nat.le_of_ble_eq_true rfl) rfl (Nat.le_of_ble_eq_true rfl) rfl ?_
        refine rj_iload 5 dX12_payBands_122 rfl rfl ?_
        refine rj_ishr dX12_payBands_124 rfl ?_
        refine rj_iconst (v := 1) dX12_payBands_125 rfl (by decide) ?_
        refine rj_iand dX12_payBands_126 rfl ?_
        refine rj_iconst (v := 1) dX12_payBands_127 rfl (by decide) ?_
        refine rj_icmp_ne dX12_payBands_128 rfl rfl (fun h8 => ?_) (fun h8 => ?_)
        · skip
          refine rj_iinc (v := nI (j98 + 1)) (l' := [(5, .int (nI (j98 + 1))), (0, .ref (ω.2.2 395)), (1, .int (fX12_lineup (mX12_keeps (rj_pi μ 395 0 0)))), (2, .int (rj_fo (bX12_payBands_18 μ) 16 0 0)), (3, .int 0), (4, .int (nI j88))]) 5 dX12_payBands_142 rfl rfl (nI_succ j98).symm (rj_bl rfl) rfl ?_
          refine rj_goto dX12_payBands_145 rfl ?_
          have e : bX12_payBands_98 μ j88 s88 j98 s98 = s98 := by unfold bX12_payBands_98; rw [if_pos h7]; rw [if_neg h8]; try rfl
          exact rj_sub (l' := [(0, .ref (ω.2.2 395)), (1, .int (fX12_lineup (mX12_keeps (rj_pi μ 395 0 0)))), (2, .int (rj_fo (bX12_payBands_18 μ) 16 0 0)), (3, .int 0), (4, .int (nI j88)), (5, .int (nI (j98 + 1)))]) [1, 2, 3, 4, 5, 0] rfl (ih (j98 + 1) s98 (by omega) (by rw [rj_fo_s (r := r), e] at K; exact K))
        · skip
          refine rj_aload_n 0 dX12_payBands_131 rfl rfl ?_
          refine rj_iconst (v := 0) dX12_payBands_132 rfl (by decide) ?_
          refine rj_bipush (v := 13) dX12_payBands_133 rfl (by decide) ?_
          refine rj_iload 5 dX12_payBands_135 rfl rfl ?_
          refine rj_iadd dX12_payBands_137 rfl ?_
          refine rj_iload_n 3 dX12_payBands_138 rfl rfl ?_
          refine rj_cV (rest := []) (sX12_pays (g := g) (ω := ω) hω s98 0 (13 + (nI j98)) 0  (vp_in_nI (n := 0) (rj_bl rfl) (rj_bl rfl)) (rj_vle (rj_vadd (N := 25) (vp_in_nI (n := 13) (N := 14) (rj_bl rfl) (rj_bl rfl)) (vp_in_nI (N := 12) hl98 (rj_bl rfl)) rfl rfl) rfl) ) gX12_payBands_X12_pays (rj_lt hω (k := 395) rfl) (rj_sh hω ly_395) rfl rfl hVX12_pays ⟨Nat.le_of_ble_eq_true rfl, Nat.le_of_ble_eq_true rfl⟩ dX12_payBands_139 rfl rfl rfl (Nat.le_of_ble_eq_true rfl) rfl (Nat.le_of_ble_eq_true rfl) rfl ?_
          refine rj_iinc (v := nI (j98 + 1)) (l' := [(5, .int (nI (j98 + 1))), (0, .ref (ω.2.2 395)), (1, .int (fX12_lineup (mX12_keeps (rj_pi μ 395 0 0)))), (2, .int (rj_fo (bX12_payBands_18 μ) 16 0 0)), (3, .int 0), (4, .int (nI j88))]) 5 dX12_payBands_142 rfl rfl (nI_succ j98).symm (rj_bl rfl) rfl ?_
          refine rj_goto dX12_payBands_145 rfl ?_
          have e : bX12_payBands_98 μ j88 s88 j98 s98 = (mX12_pays s98 0 (13 + (nI j98)) 0) := by unfold bX12_payBands_98; rw [if_pos h7]; rw [if_pos h8]; try rfl
          exact rj_sub (l' := [(0, .ref (ω.2.2 395)), (1, .int (fX12_lineup (mX12_keeps (rj_pi μ 395 0 0)))), (2, .int (rj_fo (bX12_payBands_18 μ) 16 0 0)), (3, .int 0), (4, .int (nI j88)), (5, .int (nI (j98 + 1)))]) [1, 2, 3, 4, 5, 0] rfl (ih (j98 + 1) (mX12_pays s98 0 (13 + (nI j98)) 0) (by omega) (by rw [rj_fo_s (r := r), e] at K; exact K))
noncomputable def bX12_payBands_88 (μ : rj_M) (j88 : Nat) (s88 : rj_M) : rj_M := (rj_fo (bX12_payBands_98 μ j88 s88) 12 0 s88)
set_option maxHeartbeats 4000000 in
set_option maxRecDepth 100000 in
theorem lX12_payBands_88 {g : rj_G} {ω : rj_W} (hω : rj_ok ω) (μ : rj_M)     (h4 : ((rj_fo (bX12_payBands_18 μ) 16 0 0) ≤ 0)) {F : rj_F} : ∀ (r j : Nat) (s : rj_M), j + r = 16 → (rj_R g RX12 cX12_payBands 6 (some .int) wsX12_payBands [] (rj_rm 23 0) F 0 ω (rj_fo (bX12_payBands_88 μ) r j s) [(0, .ref (ω.2.2 395)), (1, .int (fX12_lineup (mX12_keeps (rj_pi μ 395 0 0)))), (2, .int (rj_fo (bX12_payBands_18 μ) 16 0 0)), (3, .int 0), (4, .int (nI 16))] 154 []) → rj_R g RX12 cX12_payBands 6 (some .int) wsX12_payBands [] (rj_rm 23 0) F 0 ω s [(0, .ref (ω.2.2 395)), (1, .int (fX12_lineup (mX12_keeps (rj_pi μ 395 0 0)))), (2, .int (rj_fo (bX12_payBands_18 μ) 16 0 0)), (3, .int 0), (4, .int (nI j))] 88 [] := by
  intro r
  induction r with
  | zero =>
    intro j s hj K
    have e0 : j = 16 := by omega
    have hge : 16 ≤ nI j := by
      rw [e0]
      exact Int32.le_refl _
    refine rj_iload 4 dX12_payBands_88 rfl rfl ?_
    refine rj_bipush (v := 16) dX12_payBands_90 rfl (by decide) ?_
    refine rj_icmp_ge dX12_payBands_92 rfl rfl (fun h10 => ?_) (fun h10 => ?_)
    · have e1 : nI j = nI 16 := by rw [e0]
      rw [e1]
      exact K
    · exact absurd hge h10
  | succ r ih =>
    intro j88 s88 hj K
    have hl88 : j88 < 16 := by omega
    have hg88 : ¬ 16 ≤ nI j88 := nI_ge hl88 (rj_bl rfl)
    refine rj_iload 4 dX12_payBands_88 rfl rfl ?_
    refine rj_bipush (v := 16) dX12_payBands_90 rfl (by decide) ?_
    refine rj_icmp_ge dX12_payBands_92 rfl rfl (fun h5 => ?_) (fun h5 => ?_)
    · exact absurd h5 hg88
    · refine rj_iconst (v := 0) dX12_payBands_95 rfl (by decide) ?_
      refine rj_istore (l' := [(5, .int 0), (0, .ref (ω.2.2 395)), (1, .int (fX12_lineup (mX12_keeps (rj_pi μ 395 0 0)))), (2, .int (rj_fo (bX12_payBands_18 μ) 16 0 0)), (3, .int 0), (4, .int (nI j88))]) dX12_payBands_96 rfl (rj_bl rfl) rfl ?_
      refine rj_sub (l' := [(0, .ref (ω.2.2 395)), (1, .int (fX12_lineup (mX12_keeps (rj_pi μ 395 0 0)))), (2, .int (rj_fo (bX12_payBands_18 μ) 16 0 0)), (3, .int 0), (4, .int (nI j88)), (5, .int (nI 0))]) [1, 2, 3, 4, 5, 0] rfl ?_
      refine lX12_payBands_98 hω μ j88 s88   hl88  h4 h5 12 0 s88 rfl ?_
      refine rj_iinc (v := nI (j88 + 1)) (l' := [(4, .int (nI (j88 + 1))), (0, .ref (ω.2.2 395)), (1, .int (fX12_lineup (mX12_keeps (rj_pi μ 395 0 0)))), (2, .int (rj_fo (bX12_payBands_18 μ) 16 0 0)), (3, .int 0), (5, .int (nI 12))]) 4 dX12_payBands_148 rfl rfl (nI_succ j88).symm (rj_bl rfl) rfl ?_
      refine rj_goto dX12_payBands_151 rfl ?_
      have e : bX12_payBands_88 μ j88 s88 = (rj_fo (bX12_payBands_98 μ j88 s88) 12 0 s88) := by unfold bX12_payBands_88; rfl
      exact rj_sub (l' := [(0, .ref (ω.2.2 395)), (1, .int (fX12_lineup (mX12_keeps (rj_pi μ 395 0 0)))), (2, .int (rj_fo (bX12_payBands_18 μ) 16 0 0)), (3, .int 0), (4, .int (nI (j88 + 1)))]) [1, 2, 3, 4, 0] rfl (ih (j88 + 1) (rj_fo (bX12_payBands_98 μ j88 s88) 12 0 s88) (by omega) (by rw [rj_fo_s (r := r), e] at K; exact K))
noncomputable def bX12_payBands_98b (μ : rj_M) (j88 : Nat) (s88 : rj_M) (j98 : Nat) (s98 : rj_M) : rj_M := (if (((fX12_lineup (mX12_keeps (rj_pi μ 395 0 0))) >>> ((nI j88) &&& 31)) &&& 1) = 1 then (if (((fX12_its s98 (nI j88) 5) >>> ((nI j98) &&& 31)) &&& 1) = 1 then (mX12_pays s98 0 (13 + (nI j98)) 0) else s98) else s98)
set_option maxHeartbeats 4000000 in
set_option maxRecDepth 100000 in
theorem lX12_payBands_98b {g : rj_G} {ω : rj_W} (hω : rj_ok ω) (μ : rj_M) (j88 : Nat) (s88 : rj_M)   (hl88 : j88 < 16)  (h4 : ¬ ((rj_fo (bX12_payBands_18 μ) 16 0 0) ≤ 0)) (h11 : (((mX12_lineup (mX12_keeps (rj_pi μ 395 0 0))).1 396 (500 : Int32).toNatClampNeg) ≤ 0)) (h12 : ¬ (16 ≤ nI j88)) {F : rj_F} : ∀ (r j : Nat) (s : rj_M), j + r = 12 → (rj_R g RX12 cX12_payBands 6 (some .int) wsX12_payBands [] (rj_rm 23 0) F 0 ω (rj_fo (bX12_payBands_98b μ j88 s88) r j s) [(0, .ref (ω.2.2 395)), (1, .int (fX12_lineup (mX12_keeps (rj_pi μ 395 0 0)))), (2, .int (rj_fo (bX12_payBands_18 μ) 16 0 0)), (3, .int 0), (4, .int (nI j88)), (5, .int (nI 12))] 148 []) → rj_R g RX12 cX12_payBands 6 (some .int) wsX12_payBands [] (rj_rm 23 0) F 0 ω s [(0, .ref (ω.2.2 395)), (1, .int (fX12_lineup (mX12_keeps (rj_pi μ 395 0 0)))), (2, .int (rj_fo (bX12_payBands_18 μ) 16 0 0)), (3, .int 0), (4, .int (nI j88)), (5, .int (nI j))] 98 [] := by
  intro r
  induction r with
  | zero =>
    intro j s hj K
    have e0 : j = 12 := by omega
    have hge : 12 ≤ nI j := by
      rw [e0]
      exact Int32.le_refl _
    refine rj_iload 5 dX12_payBands_98 rfl rfl ?_
    refine rj_bipush (v := 12) dX12_payBands_100 rfl (by decide) ?_
    refine rj_icmp_ge dX12_payBands_102 rfl rfl (fun h16 => ?_) (fun h16 => ?_)
    · have e1 : nI j = nI 12 := by rw [e0]
      rw [e1]
      exact K
    · exact absurd hge h16
  | succ r ih =>
    intro j98 s98 hj K
    have hl98 : j98 < 12 := by omega
    have hg98 : ¬ 12 ≤ nI j98 := nI_ge hl98 (rj_bl rfl)
    refine rj_iload 5 dX12_payBands_98 rfl rfl ?_
    refine rj_bipush (v := 12) dX12_payBands_100 rfl (by decide) ?_
    refine rj_icmp_ge dX12_payBands_102 rfl rfl (fun h13 => ?_) (fun h13 => ?_)
    · exact absurd h13 hg98
    · refine rj_iload_n 1 dX12_payBands_105 rfl rfl ?_
      refine rj_iload 4 dX12_payBands_106 rfl rfl ?_
      refine rj_ishr dX12_payBands_108 rfl ?_
      refine rj_iconst (v := 1) dX12_payBands_109 rfl (by decide) ?_
      refine rj_iand dX12_payBands_110 rfl ?_
      refine rj_iconst (v := 1) dX12_payBands_111 rfl (by decide) ?_
      refine rj_icmp_ne dX12_payBands_112 rfl rfl (fun h14 => ?_) (fun h14 => ?_)
      · skip
        refine rj_iinc (v := nI (j98 + 1)) (l' := [(5, .int (nI (j98 + 1))), (0, .ref (ω.2.2 395)), (1, .int (fX12_lineup (mX12_keeps (rj_pi μ 395 0 0)))), (2, .int (rj_fo (bX12_payBands_18 μ) 16 0 0)), (3, .int 0), (4, .int (nI j88))]) 5 dX12_payBands_142 rfl rfl (nI_succ j98).symm (rj_bl rfl) rfl ?_
        refine rj_goto dX12_payBands_145 rfl ?_
        have e : bX12_payBands_98b μ j88 s88 j98 s98 = s98 := by unfold bX12_payBands_98b; rw [if_neg h14]; try rfl
        exact rj_sub (l' := [(0, .ref (ω.2.2 395)), (1, .int (fX12_lineup (mX12_keeps (rj_pi μ 395 0 0)))), (2, .int (rj_fo (bX12_payBands_18 μ) 16 0 0)), (3, .int 0), (4, .int (nI j88)), (5, .int (nI (j98 + 1)))]) [1, 2, 3, 4, 5, 0] rfl (ih (j98 + 1) s98 (by omega) (by rw [rj_fo_s (r := r), e] at K; exact K))
      · skip
        refine rj_aload_n 0 dX12_payBands_115 rfl rfl ?_
        refine rj_iload 4 dX12_payBands_116 rfl rfl ?_
        refine rj_iconst (v := 5) dX12_payBands_118 rfl (by decide) ?_
        refine rj_cV (rest := []) (sX12_its (g := g) (ω := ω) hω s98 (nI j88) 5  (vp_in_nI hl88 (rj_bl rfl)) (vp_in_nI (n := 5) (rj_bl rfl) (rj_bl rfl)) ) gX12_payBands_X12_its (rj_lt hω (k := 395) rfl) (rj_sh hω ly_395) rfl rfl hVX12_its ⟨Nat.le_of_ble_eq_true rfl, Nat.le_of_ble_eq_true rfl⟩ dX12_payBands_119 rfl rfl rfl (Nat.le_of_ble_eq_true rfl) rfl (Nat.le_of_ble_eq_true rfl) rfl ?_
        refine rj_iload 5 dX12_payBands_122 rfl rfl ?_
        refine rj_ishr dX12_payBands_124 rfl ?_
        refine rj_iconst (v := 1) dX12_payBands_125 rfl (by decide) ?_
        refine rj_iand dX12_payBands_126 rfl ?_
        refine rj_iconst (v := 1) dX12_payBands_127 rfl (by decide) ?_
        refine rj_icmp_ne dX12_payBands_128 rfl rfl (fun h15 => ?_) (fun h15 => ?_)
        · skip
          refine rj_iinc (v := nI (j98 + 1)) (l' := [(5, .int (nI (j98 + 1))), (0, .ref (ω.2.2 395)), (1, .int (fX12_lineup (mX12_keeps (rj_pi μ 395 0 0)))), (2, .int (rj_fo (bX12_payBands_18 μ) 16 0 0)), (3, .int 0), (4, .int (nI j88))]) 5 dX12_payBands_142 rfl rfl (nI_succ j98).symm (rj_bl rfl) rfl ?_
          refine rj_goto dX12_payBands_145 rfl ?_
          have e : bX12_payBands_98b μ j88 s88 j98 s98 = s98 := by unfold bX12_payBands_98b; rw [if_pos h14]; rw [if_neg h15]; try rfl
          exact rj_sub (l' := [(0, .ref (ω.2.2 395)), (1, .int (fX12_lineup (mX12_keeps (rj_pi μ 395 0 0)))), (2, .int (rj_fo (bX12_payBands_18 μ) 16 0 0)), (3, .int 0), (4, .int (nI j88)), (5, .int (nI (j98 + 1)))]) [1, 2, 3, 4, 5, 0] rfl (ih (j98 + 1) s98 (by omega) (by rw [rj_fo_s (r := r), e] at K; exact K))
        · skip
          refine rj_aload_n 0 dX12_payBands_131 rfl rfl ?_
          refine rj_iconst (v := 0) dX12_payBands_132 rfl (by decide) ?_
          refine rj_bipush (v := 13) dX12_payBands_133 rfl (by decide) ?_
          refine rj_iload 5 dX12_payBands_135 rfl rfl ?_
          refine rj_iadd dX12_payBands_137 rfl ?_
          refine rj_iload_n 3 dX12_payBands_138 rfl rfl ?_
          refine rj_cV (rest := []) (sX12_pays (g := g) (ω := ω) hω s98 0 (13 + (nI j98)) 0  (vp_in_nI (n := 0) (rj_bl rfl) (rj_bl rfl)) (rj_vle (rj_vadd (N := 25) (vp_in_nI (n := 13) (N := 14) (rj_bl rfl) (rj_bl rfl)) (vp_in_nI (N := 12) hl98 (rj_bl rfl)) rfl rfl) rfl) ) gX12_payBands_X12_pays (rj_lt hω (k := 395) rfl) (rj_sh hω ly_395) rfl rfl hVX12_pays ⟨Nat.le_of_ble_eq_true rfl, Nat.le_of_ble_eq_true rfl⟩ dX12_payBands_139 rfl rfl rfl (Nat.le_of_ble_eq_true rfl) rfl (Nat.le_of_ble_eq_true rfl) rfl ?_
          refine rj_iinc (v := nI (j98 + 1)) (l' := [(5, .int (nI (j98 + 1))), (0, .ref (ω.2.2 395)), (1, .int (fX12_lineup (mX12_keeps (rj_pi μ 395 0 0)))), (2, .int (rj_fo (bX12_payBands_18 μ) 16 0 0)), (3, .int 0), (4, .int (nI j88))]) 5 dX12_payBands_142 rfl rfl (nI_succ j98).symm (rj_bl rfl) rfl ?_
          refine rj_goto dX12_payBands_145 rfl ?_
          have e : bX12_payBands_98b μ j88 s88 j98 s98 = (mX12_pays s98 0 (13 + (nI j98)) 0) := by unfold bX12_payBands_98b; rw [if_pos h14]; rw [if_pos h15]; try rfl
          exact rj_sub (l' := [(0, .ref (ω.2.2 395)), (1, .int (fX12_lineup (mX12_keeps (rj_pi μ 395 0 0)))), (2, .int (rj_fo (bX12_payBands_18 μ) 16 0 0)), (3, .int 0), (4, .int (nI j88)), (5, .int (nI (j98 + 1)))]) [1, 2, 3, 4, 5, 0] rfl (ih (j98 + 1) (mX12_pays s98 0 (13 + (nI j98)) 0) (by omega) (by rw [rj_fo_s (r := r), e] at K; exact K))
noncomputable def bX12_payBands_88b (μ : rj_M) (j88 : Nat) (s88 : rj_M) : rj_M := (rj_fo (bX12_payBands_98b μ j88 s88) 12 0 s88)
set_option maxHeartbeats 4000000 in
set_option maxRecDepth 100000 in
theorem lX12_payBands_88b {g : rj_G} {ω : rj_W} (hω : rj_ok ω) (μ : rj_M)     (h4 : ¬ ((rj_fo (bX12_payBands_18 μ) 16 0 0) ≤ 0)) (h11 : (((mX12_lineup (mX12_keeps (rj_pi μ 395 0 0))).1 396 (500 : Int32).toNatClampNeg) ≤ 0)) {F : rj_F} : ∀ (r j : Nat) (s : rj_M), j + r = 16 → (rj_R g RX12 cX12_payBands 6 (some .int) wsX12_payBands [] (rj_rm 23 0) F 0 ω (rj_fo (bX12_payBands_88b μ) r j s) [(0, .ref (ω.2.2 395)), (1, .int (fX12_lineup (mX12_keeps (rj_pi μ 395 0 0)))), (2, .int (rj_fo (bX12_payBands_18 μ) 16 0 0)), (3, .int 0), (4, .int (nI 16))] 154 []) → rj_R g RX12 cX12_payBands 6 (some .int) wsX12_payBands [] (rj_rm 23 0) F 0 ω s [(0, .ref (ω.2.2 395)), (1, .int (fX12_lineup (mX12_keeps (rj_pi μ 395 0 0)))), (2, .int (rj_fo (bX12_payBands_18 μ) 16 0 0)), (3, .int 0), (4, .int (nI j))] 88 [] := by
  intro r
  induction r with
  | zero =>
    intro j s hj K
    have e0 : j = 16 := by omega
    have hge : 16 ≤ nI j := by
      rw [e0]
      exact Int32.le_refl _
    refine rj_iload 4 dX12_payBands_88 rfl rfl ?_
    refine rj_bipush (v := 16) dX12_payBands_90 rfl (by decide) ?_
    refine rj_icmp_ge dX12_payBands_92 rfl rfl (fun h17 => ?_) (fun h17 => ?_)
    · have e1 : nI j = nI 16 := by rw [e0]
      rw [e1]
      exact K
    · exact absurd hge h17
  | succ r ih =>
    intro j88 s88 hj K
    have hl88 : j88 < 16 := by omega
    have hg88 : ¬ 16 ≤ nI j88 := nI_ge hl88 (rj_bl rfl)
    refine rj_iload 4 dX12_payBands_88 rfl rfl ?_
    refine rj_bipush (v := 16) dX12_payBands_90 rfl (by decide) ?_
    refine rj_icmp_ge dX12_payBands_92 rfl rfl (fun h12 => ?_) (fun h12 => ?_)
    · exact absurd h12 hg88
    · refine rj_iconst (v := 0) dX12_payBands_95 rfl (by decide) ?_
      refine rj_istore (l' := [(5, .int 0), (0, .ref (ω.2.2 395)), (1, .int (fX12_lineup (mX12_keeps (rj_pi μ 395 0 0)))), (2, .int (rj_fo (bX12_payBands_18 μ) 16 0 0)), (3, .int 0), (4, .int (nI j88))]) dX12_payBands_96 rfl (rj_bl rfl) rfl ?_
      refine rj_sub (l' := [(0, .ref (ω.2.2 395)), (1, .int (fX12_lineup (mX12_keeps (rj_pi μ 395 0 0)))), (2, .int (rj_fo (bX12_payBands_18 μ) 16 0 0)), (3, .int 0), (4, .int (nI j88)), (5, .int (nI 0))]) [1, 2, 3, 4, 5, 0] rfl ?_
      refine lX12_payBands_98b hω μ j88 s88   hl88  h4 h11 h12 12 0 s88 rfl ?_
      refine rj_iinc (v := nI (j88 + 1)) (l' := [(4, .int (nI (j88 + 1))), (0, .ref (ω.2.2 395)), (1, .int (fX12_lineup (mX12_keeps (rj_pi μ 395 0 0)))), (2, .int (rj_fo (bX12_payBands_18 μ) 16 0 0)), (3, .int 0), (5, .int (nI 12))]) 4 dX12_payBands_148 rfl rfl (nI_succ j88).symm (rj_bl rfl) rfl ?_
      refine rj_goto dX12_payBands_151 rfl ?_
      have e : bX12_payBands_88b μ j88 s88 = (rj_fo (bX12_payBands_98b μ j88 s88) 12 0 s88) := by unfold bX12_payBands_88b; rfl
      exact rj_sub (l' := [(0, .ref (ω.2.2 395)), (1, .int (fX12_lineup (mX12_keeps (rj_pi μ 395 0 0)))), (2, .int (rj_fo (bX12_payBands_18 μ) 16 0 0)), (3, .int 0), (4, .int (nI (j88 + 1)))]) [1, 2, 3, 4, 0] rfl (ih (j88 + 1) (rj_fo (bX12_payBands_98b μ j88 s88) 12 0 s88) (by omega) (by rw [rj_fo_s (r := r), e] at K; exact K))
noncomputable def bX12_payBands_98c (μ : rj_M) (j88 : Nat) (s88 : rj_M) (j98 : Nat) (s98 : rj_M) : rj_M := (if (((fX12_lineup (mX12_keeps (rj_pi μ 395 0 0))) >>> ((nI j88) &&& 31)) &&& 1) = 1 then (if (((fX12_its s98 (nI j88) 5) >>> ((nI j98) &&& 31)) &&& 1) = 1 then (mX12_pays s98 0 (13 + (nI j98)) (((mX12_lineup (mX12_keeps (rj_pi μ 395 0 0))).1 396 (500 : Int32).toNatClampNeg) / (rj_fo (bX12_payBands_18 μ) 16 0 0))) else s98) else s98)
set_option maxHeartbeats 4000000 in
set_option maxRecDepth 100000 in
theorem lX12_payBands_98c {g : rj_G} {ω : rj_W} (hω : rj_ok ω) (μ : rj_M) (j88 : Nat) (s88 : rj_M)   (hl88 : j88 < 16)  (h4 : ¬ ((rj_fo (bX12_payBands_18 μ) 16 0 0) ≤ 0)) (h11 : ¬ (((mX12_lineup (mX12_keeps (rj_pi μ 395 0 0))).1 396 (500 : Int32).toNatClampNeg) ≤ 0)) (h18 : ¬ (16 ≤ nI j88)) {F : rj_F} : ∀ (r j : Nat) (s : rj_M), j + r = 12 → (rj_R g RX12 cX12_payBands 6 (some .int) wsX12_payBands [] (rj_rm 23 0) F 0 ω (rj_fo (bX12_payBands_98c μ j88 s88) r j s) [(0, .ref (ω.2.2 395)), (1, .int (fX12_lineup (mX12_keeps (rj_pi μ 395 0 0)))), (2, .int (rj_fo (bX12_payBands_18 μ) 16 0 0)), (3, .int (((mX12_lineup (mX12_keeps (rj_pi μ 395 0 0))).1 396 (500 : Int32).toNatClampNeg) / (rj_fo (bX12_payBands_18 μ) 16 0 0))), (4, .int (nI j88)), (5, .int (nI 12))] 148 []) → rj_R g RX12 cX12_payBands 6 (some .int) wsX12_payBands [] (rj_rm 23 0) F 0 ω s [(0, .ref (ω.2.2 395)), (1, .int (fX12_lineup (mX12_keeps (rj_pi μ 395 0 0)))), (2, .int (rj_fo (bX12_payBands_18 μ) 16 0 0)), (3, .int (((mX12_lineup (mX12_keeps (rj_pi μ 395 0 0))).1 396 (500 : Int32).toNatClampNeg) / (rj_fo (bX12_payBands_18 μ) 16 0 0))), (4, .int (nI j88)), (5, .int (nI j))] 98 [] := by
  intro r
  induction r with
  | zero =>
    intro j s hj K
    have e0 : j = 12 := by omega
    have hge : 12 ≤ nI j := by
      rw [e0]
      exact Int32.le_refl _
    refine rj_iload 5 dX12_payBands_98 rfl rfl ?_
    refine rj_bipush (v := 12) dX12_payBands_100 rfl (by decide) ?_
    refine rj_icmp_ge dX12_payBands_102 rfl rfl (fun h22 => ?_) (fun h22 => ?_)
    · have e1 : nI j = nI 12 := by rw [e0]
      rw [e1]
      exact K
    · exact absurd hge h22
  | succ r ih =>
    intro j98 s98 hj K
    have hl98 : j98 < 12 := by omega
    have hg98 : ¬ 12 ≤ nI j98 := nI_ge hl98 (rj_bl rfl)
    refine rj_iload 5 dX12_payBands_98 rfl rfl ?_
    refine rj_bipush (v := 12) dX12_payBands_100 rfl (by decide) ?_
    refine rj_icmp_ge dX12_payBands_102 rfl rfl (fun h19 => ?_) (fun h19 => ?_)
    · exact absurd h19 hg98
    · refine rj_iload_n 1 dX12_payBands_105 rfl rfl ?_
      refine rj_iload 4 dX12_payBands_106 rfl rfl ?_
      refine rj_ishr dX12_payBands_108 rfl ?_
      refine rj_iconst (v := 1) dX12_payBands_109 rfl (by decide) ?_
      refine rj_iand dX12_payBands_110 rfl ?_
      refine rj_iconst (v := 1) dX12_payBands_111 rfl (by decide) ?_
      refine rj_icmp_ne dX12_payBands_112 rfl rfl (fun h20 => ?_) (fun h20 => ?_)
      · skip
        refine rj_iinc (v := nI (j98 + 1)) (l' := [(5, .int (nI (j98 + 1))), (0, .ref (ω.2.2 395)), (1, .int (fX12_lineup (mX12_keeps (rj_pi μ 395 0 0)))), (2, .int (rj_fo (bX12_payBands_18 μ) 16 0 0)), (3, .int (((mX12_lineup (mX12_keeps (rj_pi μ 395 0 0))).1 396 (500 : Int32).toNatClampNeg) / (rj_fo (bX12_payBands_18 μ) 16 0 0))), (4, .int (nI j88))]) 5 dX12_payBands_142 rfl rfl (nI_succ j98).symm (rj_bl rfl) rfl ?_
        refine rj_goto dX12_payBands_145 rfl ?_
        have e : bX12_payBands_98c μ j88 s88 j98 s98 = s98 := by unfold bX12_payBands_98c; rw [if_neg h20]; try rfl
        exact rj_sub (l' := [(0, .ref (ω.2.2 395)), (1, .int (fX12_lineup (mX12_keeps (rj_pi μ 395 0 0)))), (2, .int (rj_fo (bX12_payBands_18 μ) 16 0 0)), (3, .int (((mX12_lineup (mX12_keeps (rj_pi μ 395 0 0))).1 396 (500 : Int32).toNatClampNeg) / (rj_fo (bX12_payBands_18 μ) 16 0 0))), (4, .int (nI j88)), (5, .int (nI (j98 + 1)))]) [1, 2, 3, 4, 5, 0] rfl (ih (j98 + 1) s98 (by omega) (by rw [rj_fo_s (r := r), e] at K; exact K))
      · skip
        refine rj_aload_n 0 dX12_payBands_115 rfl rfl ?_
        refine rj_iload 4 dX12_payBands_116 rfl rfl ?_
        refine rj_iconst (v := 5) dX12_payBands_118 rfl (by decide) ?_
        refine rj_cV (rest := []) (sX12_its (g := g) (ω := ω) hω s98 (nI j88) 5  (vp_in_nI hl88 (rj_bl rfl)) (vp_in_nI (n := 5) (rj_bl rfl) (rj_bl rfl)) ) gX12_payBands_X12_its (rj_lt hω (k := 395) rfl) (rj_sh hω ly_395) rfl rfl hVX12_its ⟨Nat.le_of_ble_eq_true rfl, Nat.le_of_ble_eq_true rfl⟩ dX12_payBands_119 rfl rfl rfl (Nat.le_of_ble_eq_true rfl) rfl (Nat.le_of_ble_eq_true rfl) rfl ?_
        refine rj_iload 5 dX12_payBands_122 rfl rfl ?_
        refine rj_ishr dX12_payBands_124 rfl ?_
        refine rj_iconst (v := 1) dX12_payBands_125 rfl (by decide) ?_
        refine rj_iand dX12_payBands_126 rfl ?_
        refine rj_iconst (v := 1) dX12_payBands_127 rfl (by decide) ?_
        refine rj_icmp_ne dX12_payBands_128 rfl rfl (fun h21 => ?_) (fun h21 => ?_)
        · skip
          refine rj_iinc (v := nI (j98 + 1)) (l' := [(5, .int (nI (j98 + 1))), (0, .ref (ω.2.2 395)), (1, .int (fX12_lineup (mX12_keeps (rj_pi μ 395 0 0)))), (2, .int (rj_fo (bX12_payBands_18 μ) 16 0 0)), (3, .int (((mX12_lineup (mX12_keeps (rj_pi μ 395 0 0))).1 396 (500 : Int32).toNatClampNeg) / (rj_fo (bX12_payBands_18 μ) 16 0 0))), (4, .int (nI j88))]) 5 dX12_payBands_142 rfl rfl (nI_succ j98).symm (rj_bl rfl) rfl ?_
          refine rj_goto dX12_payBands_145 rfl ?_
          have e : bX12_payBands_98c μ j88 s88 j98 s98 = s98 := by unfold bX12_payBands_98c; rw [if_pos h20]; rw [if_neg h21]; try rfl
          exact rj_sub (l' := [(0, .ref (ω.2.2 395)), (1, .int (fX12_lineup (mX12_keeps (rj_pi μ 395 0 0)))), (2, .int (rj_fo (bX12_payBands_18 μ) 16 0 0)), (3, .int (((mX12_lineup (mX12_keeps (rj_pi μ 395 0 0))).1 396 (500 : Int32).toNatClampNeg) / (rj_fo (bX12_payBands_18 μ) 16 0 0))), (4, .int (nI j88)), (5, .int (nI (j98 + 1)))]) [1, 2, 3, 4, 5, 0] rfl (ih (j98 + 1) s98 (by omega) (by rw [rj_fo_s (r := r), e] at K; exact K))
        · skip
          refine rj_aload_n 0 dX12_payBands_131 rfl rfl ?_
          refine rj_iconst (v := 0) dX12_payBands_132 rfl (by decide) ?_
          refine rj_bipush (v := 13) dX12_payBands_133 rfl (by decide) ?_
          refine rj_iload 5 dX12_payBands_135 rfl rfl ?_
          refine rj_iadd dX12_payBands_137 rfl ?_
          refine rj_iload_n 3 dX12_payBands_138 rfl rfl ?_
          refine rj_cV (rest := []) (sX12_pays (g := g) (ω := ω) hω s98 0 (13 + (nI j98)) (((mX12_lineup (mX12_keeps (rj_pi μ 395 0 0))).1 396 (500 : Int32).toNatClampNeg) / (rj_fo (bX12_payBands_18 μ) 16 0 0))  (vp_in_nI (n := 0) (rj_bl rfl) (rj_bl rfl)) (rj_vle (rj_vadd (N := 25) (vp_in_nI (n := 13) (N := 14) (rj_bl rfl) (rj_bl rfl)) (vp_in_nI (N := 12) hl98 (rj_bl rfl)) rfl rfl) rfl) ) gX12_payBands_X12_pays (rj_lt hω (k := 395) rfl) (rj_sh hω ly_395) rfl rfl hVX12_pays ⟨Nat.le_of_ble_eq_true rfl, Nat.le_of_ble_eq_true rfl⟩ dX12_payBands_139 rfl rfl rfl (Nat.le_of_ble_eq_true rfl) rfl (Nat.le_of_ble_eq_true rfl) rfl ?_
          refine rj_iinc (v := nI (j98 + 1)) (l' := [(5, .int (nI (j98 + 1))), (0, .ref (ω.2.2 395)), (1, .int (fX12_lineup (mX12_keeps (rj_pi μ 395 0 0)))), (2, .int (rj_fo (bX12_payBands_18 μ) 16 0 0)), (3, .int (((mX12_lineup (mX12_keeps (rj_pi μ 395 0 0))).1 396 (500 : Int32).toNatClampNeg) / (rj_fo (bX12_payBands_18 μ) 16 0 0))), (4, .int (nI j88))]) 5 dX12_payBands_142 rfl rfl (nI_succ j98).symm (rj_bl rfl) rfl ?_
          refine rj_goto dX12_payBands_145 rfl ?_
          have e : bX12_payBands_98c μ j88 s88 j98 s98 = (mX12_pays s98 0 (13 + (nI j98)) (((mX12_lineup (mX12_keeps (rj_pi μ 395 0 0))).1 396 (500 : Int32).toNatClampNeg) / (rj_fo (bX12_payBands_18 μ) 16 0 0))) := by unfold bX12_payBands_98c; rw [if_pos h20]; rw [if_pos h21]; try rfl
          exact rj_sub (l' := [(0, .ref (ω.2.2 395)), (1, .int (fX12_lineup (mX12_keeps (rj_pi μ 395 0 0)))), (2, .int (rj_fo (bX12_payBands_18 μ) 16 0 0)), (3, .int (((mX12_lineup (mX12_keeps (rj_pi μ 395 0 0))).1 396 (500 : Int32).toNatClampNeg) / (rj_fo (bX12_payBands_18 μ) 16 0 0))), (4, .int (nI j88)), (5, .int (nI (j98 + 1)))]) [1, 2, 3, 4, 5, 0] rfl (ih (j98 + 1) (mX12_pays s98 0 (13 + (nI j98)) (((mX12_lineup (mX12_keeps (rj_pi μ 395 0 0))).1 396 (500 : Int32).toNatClampNeg) / (rj_fo (bX12_payBands_18 μ) 16 0 0))) (by omega) (by rw [rj_fo_s (r := r), e] at K; exact K))
noncomputable def bX12_payBands_88c (μ : rj_M) (j88 : Nat) (s88 : rj_M) : rj_M := (rj_fo (bX12_payBands_98c μ j88 s88) 12 0 s88)
set_option maxHeartbeats 4000000 in
set_option maxRecDepth 100000 in
theorem lX12_payBands_88c {g : rj_G} {ω : rj_W} (hω : rj_ok ω) (μ : rj_M)     (h4 : ¬ ((rj_fo (bX12_payBands_18 μ) 16 0 0) ≤ 0)) (h11 : ¬ (((mX12_lineup (mX12_keeps (rj_pi μ 395 0 0))).1 396 (500 : Int32).toNatClampNeg) ≤ 0)) {F : rj_F} : ∀ (r j : Nat) (s : rj_M), j + r = 16 → (rj_R g RX12 cX12_payBands 6 (some .int) wsX12_payBands [] (rj_rm 23 0) F 0 ω (rj_fo (bX12_payBands_88c μ) r j s) [(0, .ref (ω.2.2 395)), (1, .int (fX12_lineup (mX12_keeps (rj_pi μ 395 0 0)))), (2, .int (rj_fo (bX12_payBands_18 μ) 16 0 0)), (3, .int (((mX12_lineup (mX12_keeps (rj_pi μ 395 0 0))).1 396 (500 : Int32).toNatClampNeg) / (rj_fo (bX12_payBands_18 μ) 16 0 0))), (4, .int (nI 16))] 154 []) → rj_R g RX12 cX12_payBands 6 (some .int) wsX12_payBands [] (rj_rm 23 0) F 0 ω s [(0, .ref (ω.2.2 395)), (1, .int (fX12_lineup (mX12_keeps (rj_pi μ 395 0 0)))), (2, .int (rj_fo (bX12_payBands_18 μ) 16 0 0)), (3, .int (((mX12_lineup (mX12_keeps (rj_pi μ 395 0 0))).1 396 (500 : Int32).toNatClampNeg) / (rj_fo (bX12_payBands_18 μ) 16 0 0))), (4, .int (nI j))] 88 [] := by
  intro r
  induction r with
  | zero =>
    intro j s hj K
    have e0 : j = 16 := by omega
    have hge : 16 ≤ nI j := by
      rw [e0]
      exact Int32.le_refl _
    refine rj_iload 4 dX12_payBands_88 rfl rfl ?_
    refine rj_bipush (v := 16) dX12_payBands_90 rfl (by decide) ?_
    refine rj_icmp_ge dX12_payBands_92 rfl rfl (fun h23 => ?_) (fun h23 => ?_)
    · have e1 : nI j = nI 16 := by rw [e0]
      rw [e1]
      exact K
    · exact absurd hge h23
  | succ r ih =>
    intro j88 s88 hj K
    have hl88 : j88 < 16 := by omega
    have hg88 : ¬ 16 ≤ nI j88 := nI_ge hl88 (rj_bl rfl)
    refine rj_iload 4 dX12_payBands_88 rfl rfl ?_
    refine rj_bipush (v := 16) dX12_payBands_90 rfl (by decide) ?_
    refine rj_icmp_ge dX12_payBands_92 rfl rfl (fun h18 => ?_) (fun h18 => ?_)
    · exact absurd h18 hg88
    · refine rj_iconst (v := 0) dX12_payBands_95 rfl (by decide) ?_
      refine rj_istore (l' := [(5, .int 0), (0, .ref (ω.2.2 395)), (1, .int (fX12_lineup (mX12_keeps (rj_pi μ 395 0 0)))), (2, .int (rj_fo (bX12_payBands_18 μ) 16 0 0)), (3, .int (((mX12_lineup (mX12_keeps (rj_pi μ 395 0 0))).1 396 (500 : Int32).toNatClampNeg) / (rj_fo (bX12_payBands_18 μ) 16 0 0))), (4, .int (nI j88))]) dX12_payBands_96 rfl (rj_bl rfl) rfl ?_
      refine rj_sub (l' := [(0, .ref (ω.2.2 395)), (1, .int (fX12_lineup (mX12_keeps (rj_pi μ 395 0 0)))), (2, .int (rj_fo (bX12_payBands_18 μ) 16 0 0)), (3, .int (((mX12_lineup (mX12_keeps (rj_pi μ 395 0 0))).1 396 (500 : Int32).toNatClampNeg) / (rj_fo (bX12_payBands_18 μ) 16 0 0))), (4, .int (nI j88)), (5, .int (nI 0))]) [1, 2, 3, 4, 5, 0] rfl ?_
      refine lX12_payBands_98c hω μ j88 s88   hl88  h4 h11 h18 12 0 s88 rfl ?_
      refine rj_iinc (v := nI (j88 + 1)) (l' := [(4, .int (nI (j88 + 1))), (0, .ref (ω.2.2 395)), (1, .int (fX12_lineup (mX12_keeps (rj_pi μ 395 0 0)))), (2, .int (rj_fo (bX12_payBands_18 μ) 16 0 0)), (3, .int (((mX12_lineup (mX12_keeps (rj_pi μ 395 0 0))).1 396 (500 : Int32).toNatClampNeg) / (rj_fo (bX12_payBands_18 μ) 16 0 0))), (5, .int (nI 12))]) 4 dX12_payBands_148 rfl rfl (nI_succ j88).symm (rj_bl rfl) rfl ?_
      refine rj_goto dX12_payBands_151 rfl ?_
      have e : bX12_payBands_88c μ j88 s88 = (rj_fo (bX12_payBands_98c μ j88 s88) 12 0 s88) := by unfold bX12_payBands_88c; rfl
      exact rj_sub (l' := [(0, .ref (ω.2.2 395)), (1, .int (fX12_lineup (mX12_keeps (rj_pi μ 395 0 0)))), (2, .int (rj_fo (bX12_payBands_18 μ) 16 0 0)), (3, .int (((mX12_lineup (mX12_keeps (rj_pi μ 395 0 0))).1 396 (500 : Int32).toNatClampNeg) / (rj_fo (bX12_payBands_18 μ) 16 0 0))), (4, .int (nI (j88 + 1)))]) [1, 2, 3, 4, 0] rfl (ih (j88 + 1) (rj_fo (bX12_payBands_98c μ j88 s88) 12 0 s88) (by omega) (by rw [rj_fo_s (r := r), e] at K; exact K))
noncomputable def fX12_payBands (μ : rj_M) : Int32 := (if (rj_fo (bX12_payBands_18 μ) 16 0 0) ≤ 0 then 0 else (if ((mX12_lineup (mX12_keeps (rj_pi μ 395 0 0))).1 396 (500 : Int32).toNatClampNeg) ≤ 0 then 0 else (((mX12_lineup (mX12_keeps (rj_pi μ 395 0 0))).1 396 (500 : Int32).toNatClampNeg) / (rj_fo (bX12_payBands_18 μ) 16 0 0))))
noncomputable def mX12_payBands (μ : rj_M) : rj_M := (if (rj_fo (bX12_payBands_18 μ) 16 0 0) ≤ 0 then (rj_fo (bX12_payBands_88 μ) 16 0 (mX12_lineup (mX12_keeps (rj_pi μ 395 0 0)))) else (if ((mX12_lineup (mX12_keeps (rj_pi μ 395 0 0))).1 396 (500 : Int32).toNatClampNeg) ≤ 0 then (rj_fo (bX12_payBands_88b μ) 16 0 (mX12_lineup (mX12_keeps (rj_pi μ 395 0 0)))) else (rj_fo (bX12_payBands_88c μ) 16 0 (mX12_lineup (mX12_keeps (rj_pi μ 395 0 0))))))
noncomputable def qX12_payBands (μ : rj_M) : Prop := (qX12_keeps (rj_pi μ 395 0 0) ∧ qX12_lineup (mX12_keeps (rj_pi μ 395 0 0)) ∧ ((((rj_fo (bX12_payBands_18 μ) 16 0 0) ≤ 0) → True) ∧ ((¬ ((rj_fo (bX12_payBands_18 μ) 16 0 0) ≤ 0)) → (((((mX12_lineup (mX12_keeps (rj_pi μ 395 0 0))).1 396 (500 : Int32).toNatClampNeg) ≤ 0) → True) ∧ ((¬ (((mX12_lineup (mX12_keeps (rj_pi μ 395 0 0))).1 396 (500 : Int32).toNatClampNeg) ≤ 0)) → (¬ (rj_fo (bX12_payBands_18 μ) 16 0 0) = 0 ∧ True))))))
set_option maxHeartbeats 40000000 in
set_option maxRecDepth 100000 in
theorem sX12_payBands {g : rj_G} {ω : rj_W} (hω : rj_ok ω) (μ : rj_M)   (hq : qX12_payBands μ) : rj_Sp g yX12_payBands wsX12_payBands (rj_rm 23 0) [.ref (ω.2.2 395)] ω μ (rj_D (.inl (some (.int (fX12_payBands μ)))) ω (mX12_payBands μ)) := by
  have hqa := hq
  unfold qX12_payBands at hqa
  refine rj_of' (cc := cX12_payBands) (nL := 6) (ret := (some .int)) (own := RX12) (l0 := [(0, .ref (ω.2.2 395))]) rfl (by decide +kernel) rfl (Nat.le_of_ble_eq_true rfl) rfl ?_
  refine rj_aload_n 0 dX12_payBands_0 rfl rfl ?_
  refine rj_iconst (v := 0) dX12_payBands_1 rfl (by decide) ?_
  refine rj_putI (C0 := RX12) (T := TX12) (N := 16) (j := 0) dX12_payBands_2 rfl vX12_payBands_12 rfl (rj_lt hω (k := 395) rfl) (rj_sh hω ly_395) (by decide) kX12_payBands_39 tyX12 tyX12_ok nmX12 rfl rfl rfl rfl ?_
  refine rj_aload_n 0 dX12_payBands_5 rfl rfl ?_
  refine rj_cV (rest := []) (sX12_keeps (g := g) (ω := ω) hω (rj_pi μ 395 0 0)   (And.left hqa)) gX12_payBands_X12_keeps (rj_lt hω (k := 395) rfl) (rj_sh hω ly_395) rfl rfl hVX12_keeps ⟨Nat.le_of_ble_eq_true rfl, Nat.le_of_ble_eq_true rfl⟩ dX12_payBands_6 rfl rfl rfl (Nat.le_of_ble_eq_true rfl) rfl (Nat.le_of_ble_eq_true rfl) rfl ?_
  refine rj_aload_n 0 dX12_payBands_9 rfl rfl ?_
  refine rj_cV (rest := []) (sX12_lineup (g := g) (ω := ω) hω (mX12_keeps (rj_pi μ 395 0 0))   (And.left (And.right hqa))) gX12_payBands_X12_lineup (rj_lt hω (k := 395) rfl) (rj_sh hω ly_395) rfl rfl hVX12_lineup ⟨Nat.le_of_ble_eq_true rfl, Nat.le_of_ble_eq_true rfl⟩ dX12_payBands_10 rfl rfl rfl (Nat.le_of_ble_eq_true rfl) rfl (Nat.le_of_ble_eq_true rfl) rfl ?_
  refine rj_istore_n (l' := [(1, .int (fX12_lineup (mX12_keeps (rj_pi μ 395 0 0)))), (0, .ref (ω.2.2 395))]) dX12_payBands_13 rfl (rj_bl rfl) rfl ?_
  refine rj_iconst (v := 0) dX12_payBands_14 rfl (by decide) ?_
  refine rj_istore_n (l' := [(2, .int 0), (1, .int (fX12_lineup (mX12_keeps (rj_pi μ 395 0 0)))), (0, .ref (ω.2.2 395))]) dX12_payBands_15 rfl (rj_bl rfl) rfl ?_
  refine rj_iconst (v := 0) dX12_payBands_16 rfl (by decide) ?_
  refine rj_istore_n (l' := [(3, .int 0), (2, .int 0), (1, .int (fX12_lineup (mX12_keeps (rj_pi μ 395 0 0)))), (0, .ref (ω.2.2 395))]) dX12_payBands_17 rfl (rj_bl rfl) rfl ?_
  refine rj_sub (l' := [(0, .ref (ω.2.2 395)), (1, .int (fX12_lineup (mX12_keeps (rj_pi μ 395 0 0)))), (2, .int 0), (3, .int (nI 0))]) [3, 2, 1, 0] rfl ?_
  refine lX12_payBands_18 hω μ      16 0 0 rfl ?_
  refine rj_iload_n 2 dX12_payBands_55 rfl rfl ?_
  refine rj_if_le dX12_payBands_56 rfl rfl (fun h4 => ?_) (fun h4 => ?_)
  · skip
    refine rj_iconst (v := 0) dX12_payBands_83 rfl (by decide) ?_
    refine rj_istore_n (l' := [(3, .int 0), (0, .ref (ω.2.2 395)), (1, .int (fX12_lineup (mX12_keeps (rj_pi μ 395 0 0)))), (2, .int (rj_fo (bX12_payBands_18 μ) 16 0 0))]) dX12_payBands_84 rfl (rj_bl rfl) rfl ?_
    refine rj_iconst (v := 0) dX12_payBands_85 rfl (by decide) ?_
    refine rj_istore (l' := [(4, .int 0), (3, .int 0), (0, .ref (ω.2.2 395)), (1, .int (fX12_lineup (mX12_keeps (rj_pi μ 395 0 0)))), (2, .int (rj_fo (bX12_payBands_18 μ) 16 0 0))]) dX12_payBands_86 rfl (rj_bl rfl) rfl ?_
    refine rj_sub (l' := [(0, .ref (ω.2.2 395)), (1, .int (fX12_lineup (mX12_keeps (rj_pi μ 395 0 0)))), (2, .int (rj_fo (bX12_payBands_18 μ) 16 0 0)), (3, .int 0), (4, .int (nI 0))]) [2, 3, 4, 1, 0] rfl ?_
    refine lX12_payBands_88 hω μ     h4 16 0 (mX12_lineup (mX12_keeps (rj_pi μ 395 0 0))) rfl ?_
    refine rj_iload_n 3 dX12_payBands_154 rfl rfl ?_
    exact rj_iret dX12_payBands_155 rfl (Nat.le_of_ble_eq_true rfl) (Nat.le_of_ble_eq_true rfl) ⟨(by unfold fX12_payBands; rw [if_pos h4]; try rfl), rfl, (by unfold mX12_payBands; rw [if_pos h4]; try rfl)⟩
  · have hq8 := (And.right (And.right (And.right hqa))) h4
    refine rj_aload_n 0 dX12_payBands_59 rfl rfl ?_
    refine rj_getR (C0 := RX12) (T := TX12) (N := 16) (j := 1) (r := 396) dX12_payBands_60 rfl vX12_payBands_12 rfl (rj_lt hω (k := 395) rfl) (rj_sh hω ly_395) (by decide) kX12_payBands_9 rfl ?_
    refine rj_sipush (v := 500) dX12_payBands_63 rfl (by decide) ?_
    refine rj_iald dX12_payBands_66 rfl (rj_lt hω (k := 396) rfl) (rj_sh hω ly_396) (vp_in_nI (n := 500) (rj_bl rfl) (rj_bl rfl)) ?_
    refine rj_if_le dX12_payBands_67 rfl rfl (fun h11 => ?_) (fun h11 => ?_)
    · skip
      refine rj_iconst (v := 0) dX12_payBands_83 rfl (by decide) ?_
      refine rj_istore_n (l' := [(3, .int 0), (0, .ref (ω.2.2 395)), (1, .int (fX12_lineup (mX12_keeps (rj_pi μ 395 0 0)))), (2, .int (rj_fo (bX12_payBands_18 μ) 16 0 0))]) dX12_payBands_84 rfl (rj_bl rfl) rfl ?_
      refine rj_iconst (v := 0) dX12_payBands_85 rfl (by decide) ?_
      refine rj_istore (l' := [(4, .int 0), (3, .int 0), (0, .ref (ω.2.2 395)), (1, .int (fX12_lineup (mX12_keeps (rj_pi μ 395 0 0)))), (2, .int (rj_fo (bX12_payBands_18 μ) 16 0 0))]) dX12_payBands_86 rfl (rj_bl rfl) rfl ?_
      refine rj_sub (l' := [(0, .ref (ω.2.2 395)), (1, .int (fX12_lineup (mX12_keeps (rj_pi μ 395 0 0)))), (2, .int (rj_fo (bX12_payBands_18 μ) 16 0 0)), (3, .int 0), (4, .int (nI 0))]) [2, 3, 4, 1, 0] rfl ?_
      refine lX12_payBands_88b hω μ     h4 h11 16 0 (mX12_lineup (mX12_keeps (rj_pi μ 395 0 0))) rfl ?_
      refine rj_iload_n 3 dX12_payBands_154 rfl rfl ?_
      exact rj_iret dX12_payBands_155 rfl (Nat.le_of_ble_eq_true rfl) (Nat.le_of_ble_eq_true rfl) ⟨(by unfold fX12_payBands; rw [if_neg h4]; rw [if_pos h11]; try rfl), rfl, (by unfold mX12_payBands; rw [if_neg h4]; rw [if_pos h11]; try rfl)⟩
    · have hq14 := (And.right hq8) h11
      refine rj_aload_n 0 dX12_payBands_70 rfl rfl ?_
      refine rj_getR (C0 := RX12) (T := TX12) (N := 16) (j := 1) (r := 396) dX12_payBands_71 rfl vX12_payBands_12 rfl (rj_lt hω (k := 395) rfl) (rj_sh hω ly_395) (by decide) kX12_payBands_9 rfl ?_
      refine rj_sipush (v := 500) dX12_payBands_74 rfl (by decide) ?_
      refine rj_iald dX12_payBands_77 rfl (rj_lt hω (k := 396) rfl) (rj_sh hω ly_396) (vp_in_nI (n := 500) (rj_bl rfl) (rj_bl rfl)) ?_
      refine rj_iload_n 2 dX12_payBands_78 rfl rfl ?_
      refine rj_idiv dX12_payBands_79 rfl (And.left hq14) ?_
      refine rj_goto dX12_payBands_80 rfl ?_
      refine rj_istore_n (l' := [(3, .int (((mX12_lineup (mX12_keeps (rj_pi μ 395 0 0))).1 396 (500 : Int32).toNatClampNeg) / (rj_fo (bX12_payBands_18 μ) 16 0 0))), (0, .ref (ω.2.2 395)), (1, .int (fX12_lineup (mX12_keeps (rj_pi μ 395 0 0)))), (2, .int (rj_fo (bX12_payBands_18 μ) 16 0 0))]) dX12_payBands_84 rfl (rj_bl rfl) rfl ?_
      refine rj_iconst (v := 0) dX12_payBands_85 rfl (by decide) ?_
      refine rj_istore (l' := [(4, .int 0), (3, .int (((mX12_lineup (mX12_keeps (rj_pi μ 395 0 0))).1 396 (500 : Int32).toNatClampNeg) / (rj_fo (bX12_payBands_18 μ) 16 0 0))), (0, .ref (ω.2.2 395)), (1, .int (fX12_lineup (mX12_keeps (rj_pi μ 395 0 0)))), (2, .int (rj_fo (bX12_payBands_18 μ) 16 0 0))]) dX12_payBands_86 rfl (rj_bl rfl) rfl ?_
      refine rj_sub (l' := [(0, .ref (ω.2.2 395)), (1, .int (fX12_lineup (mX12_keeps (rj_pi μ 395 0 0)))), (2, .int (rj_fo (bX12_payBands_18 μ) 16 0 0)), (3, .int (((mX12_lineup (mX12_keeps (rj_pi μ 395 0 0))).1 396 (500 : Int32).toNatClampNeg) / (rj_fo (bX12_payBands_18 μ) 16 0 0))), (4, .int (nI 0))]) [2, 3, 4, 1, 0] rfl ?_
      refine lX12_payBands_88c hω μ     h4 h11 16 0 (mX12_lineup (mX12_keeps (rj_pi μ 395 0 0))) rfl ?_
      refine rj_iload_n 3 dX12_payBands_154 rfl rfl ?_
      exact rj_iret dX12_payBands_155 rfl (Nat.le_of_ble_eq_true rfl) (Nat.le_of_ble_eq_true rfl) ⟨(by unfold fX12_payBands; rw [if_neg h4]; rw [if_neg h11]; try rfl), rfl, (by unfold mX12_payBands; rw [if_neg h4]; rw [if_neg h11]; try rfl)⟩
