theorem hSX7_bestAmong : yX7_bestAmong.cls ≠ "java/lang/invoke/MethodHandle" ∧ yX7_bestAmong.cls ≠ "java/lang/invoke/VarHandle" ∧ (parseMethodDescriptor yX7_bestAmong.desc).map (fun d => d.parameters.length) = some 4 := by decide +kernel
theorem hVX7_bestAmong : yX7_bestAmong.cls = RX7 ∧ yX7_bestAmong.cls ≠ "java/lang/invoke/MethodHandle" ∧ yX7_bestAmong.cls ≠ "java/lang/invoke/VarHandle" ∧ (parseMethodDescriptor yX7_bestAmong.desc).map (fun d => d.parameters.length) = some 4 := by decide +kernel
def fX7_bestAmong : Nat → rj_M → Int32 → Int32 → Int32
  | 0, _, _, _ => 0
  | n + 1, μ, a2, a3 => (if a3 < 0 then 0 else (if 16 ≤ a3 then 0 else (if a3 < 16 then (if ((a2 >>> (a3 &&& 31)) &&& 1) = 0 then (fX7_bestAmong n μ a2 (a3 + 1)) else (if (a2 &&& (μ.1 15 a3.toNatClampNeg)) = 0 then ((((μ.1 16 a3.toNatClampNeg) <<< (16 &&& 31)) + (1 <<< (a3 &&& 31))) + (fX7_bestAmong n μ (a2 &&& ((μ.1 15 a3.toNatClampNeg) ^^^ (-1))) (a3 + 1))) else (if (((((μ.1 16 a3.toNatClampNeg) <<< (16 &&& 31)) + (1 <<< (a3 &&& 31))) + (fX7_bestAmong n μ (a2 &&& ((μ.1 15 a3.toNatClampNeg) ^^^ (-1))) (a3 + 1))) >>> (16 &&& 31)) < ((fX7_bestAmong n μ (a2 &&& ((1 <<< (a3 &&& 31)) ^^^ (-1))) (a3 + 1)) >>> (16 &&& 31)) then (fX7_bestAmong n μ (a2 &&& ((1 <<< (a3 &&& 31)) ^^^ (-1))) (a3 + 1)) else ((((μ.1 16 a3.toNatClampNeg) <<< (16 &&& 31)) + (1 <<< (a3 &&& 31))) + (fX7_bestAmong n μ (a2 &&& ((μ.1 15 a3.toNatClampNeg) ^^^ (-1))) (a3 + 1)))))) else 0)))
theorem fX7_bestAmong_s (n : Nat) (μ : rj_M) (a2 : Int32) (a3 : Int32) : fX7_bestAmong (n + 1) μ a2 a3 = (if a3 < 0 then 0 else (if 16 ≤ a3 then 0 else (if a3 < 16 then (if ((a2 >>> (a3 &&& 31)) &&& 1) = 0 then (fX7_bestAmong n μ a2 (a3 + 1)) else (if (a2 &&& (μ.1 15 a3.toNatClampNeg)) = 0 then ((((μ.1 16 a3.toNatClampNeg) <<< (16 &&& 31)) + (1 <<< (a3 &&& 31))) + (fX7_bestAmong n μ (a2 &&& ((μ.1 15 a3.toNatClampNeg) ^^^ (-1))) (a3 + 1))) else (if (((((μ.1 16 a3.toNatClampNeg) <<< (16 &&& 31)) + (1 <<< (a3 &&& 31))) + (fX7_bestAmong n μ (a2 &&& ((μ.1 15 a3.toNatClampNeg) ^^^ (-1))) (a3 + 1))) >>> (16 &&& 31)) < ((fX7_bestAmong n μ (a2 &&& ((1 <<< (a3 &&& 31)) ^^^ (-1))) (a3 + 1)) >>> (16 &&& 31)) then (fX7_bestAmong n μ (a2 &&& ((1 <<< (a3 &&& 31)) ^^^ (-1))) (a3 + 1)) else ((((μ.1 16 a3.toNatClampNeg) <<< (16 &&& 31)) + (1 <<< (a3 &&& 31))) + (fX7_bestAmong n μ (a2 &&& ((μ.1 15 a3.toNatClampNeg) ^^^ (-1))) (a3 + 1)))))) else 0))) := rfl
def qX7_bestAmong : Nat → rj_M → Int32 → Int32 → Prop
  | 0, _, _, _ => False
  | n + 1, μ, a2, a3 => (if a3 < 0 then True else (if 16 ≤ a3 then True else (if a3 < 16 then (if ((a2 >>> (a3 &&& 31)) &&& 1) = 0 then (qX7_bestAmong n μ a2 (a3 + 1) ∧ True) else (qX7_bestAmong n μ (a2 &&& ((μ.1 15 a3.toNatClampNeg) ^^^ (-1))) (a3 + 1) ∧ (if (a2 &&& (μ.1 15 a3.toNatClampNeg)) = 0 then True else (qX7_bestAmong n μ (a2 &&& ((1 <<< (a3 &&& 31)) ^^^ (-1))) (a3 + 1) ∧ True)))) else True)))
theorem qX7_bestAmong_s (n : Nat) (μ : rj_M) (a2 : Int32) (a3 : Int32) : qX7_bestAmong (n + 1) μ a2 a3 = (if a3 < 0 then True else (if 16 ≤ a3 then True else (if a3 < 16 then (if ((a2 >>> (a3 &&& 31)) &&& 1) = 0 then (qX7_bestAmong n μ a2 (a3 + 1) ∧ True) else (qX7_bestAmong n μ (a2 &&& ((μ.1 15 a3.toNatClampNeg) ^^^ (-1))) (a3 + 1) ∧ (if (a2 &&& (μ.1 15 a3.toNatClampNeg)) = 0 then True else (qX7_bestAmong n μ (a2 &&& ((1 <<< (a3 &&& 31)) ^^^ (-1))) (a3 + 1) ∧ True)))) else True))) := rfl
set_option maxHeartbeats 40000000 in
set_option maxRecDepth 100000 in
theorem sX7_bestAmong {g : rj_G} {ω : rj_W} (hω : rj_ok ω) : ∀ (n : Nat) (μ : rj_M) (a2 : Int32) (a3 : Int32), qX7_bestAmong n μ a2 a3 → rj_Sp g yX7_bestAmong wsX7_bestAmong (rj_rm (1 + n) 0) [.ref (ω.2.2 15), .ref (ω.2.2 16), .int a2, .int a3] ω μ (rj_D (.inl (some (.int (fX7_bestAmong n μ a2 a3)))) ω μ) := by
  intro n
  induction n with
  | zero =>
    intro μ a2 a3  hq
    exact hq.elim
  | succ n ih =>
    intro μ a2 a3  hq
    have hqa := hq
    rw [qX7_bestAmong_s] at hqa
    refine rj_of' (cc := cX7_bestAmong) (nL := 7) (ret := (some .int)) (own := RX7) (l0 := [(0, .ref (ω.2.2 15)), (1, .ref (ω.2.2 16)), (2, .int a2), (3, .int a3)]) rfl (by decide +kernel) rfl (Nat.le_of_ble_eq_true rfl) rfl ?_
    refine rj_iload_n 3 dX7_bestAmong_0 rfl rfl ?_
    refine rj_if_lt dX7_bestAmong_1 rfl rfl (fun h1 => ?_) (fun h1 => ?_)
    · have hq1 := hqa; rw [if_pos h1] at hq1
      refine rj_iconst (v := 0) dX7_bestAmong_16 rfl (by decide) ?_
      exact rj_iret dX7_bestAmong_17 rfl (Nat.le_of_ble_eq_true rfl) (Nat.le_of_ble_eq_true rfl) ⟨(by rw [fX7_bestAmong_s]; rw [if_pos h1]; try rfl), rfl, rfl⟩
    · have hq2 := hqa; rw [if_neg h1] at hq2
      refine rj_iload_n 3 dX7_bestAmong_4 rfl rfl ?_
      refine rj_aload_n 0 dX7_bestAmong_5 rfl rfl ?_
      refine rj_alen (v := 16) dX7_bestAmong_6 rfl (rj_lt hω (k := 15) rfl) (rj_sh hω ly_15) rfl rfl ?_
      refine rj_icmp_ge dX7_bestAmong_7 rfl rfl (fun h2 => ?_) (fun h2 => ?_)
      · have hq3 := hq2; rw [if_pos h2] at hq3
        refine rj_iconst (v := 0) dX7_bestAmong_16 rfl (by decide) ?_
        exact rj_iret dX7_bestAmong_17 rfl (Nat.le_of_ble_eq_true rfl) (Nat.le_of_ble_eq_true rfl) ⟨(by rw [fX7_bestAmong_s]; rw [if_neg h1]; rw [if_pos h2]; try rfl), rfl, rfl⟩
      · have hq4 := hq2; rw [if_neg h2] at hq4
        refine rj_iload_n 3 dX7_bestAmong_10 rfl rfl ?_
        refine rj_aload_n 1 dX7_bestAmong_11 rfl rfl ?_
        refine rj_alen (v := 16) dX7_bestAmong_12 rfl (rj_lt hω (k := 16) rfl) (rj_sh hω ly_16) rfl rfl ?_
        refine rj_icmp_lt dX7_bestAmong_13 rfl rfl (fun h3 => ?_) (fun h3 => ?_)
        · have hq5 := hq4; rw [if_pos h3] at hq5
          refine rj_iload_n 2 dX7_bestAmong_18 rfl rfl ?_
          refine rj_iload_n 3 dX7_bestAmong_19 rfl rfl ?_
          refine rj_ishr dX7_bestAmong_20 rfl ?_
          refine rj_iconst (v := 1) dX7_bestAmong_21 rfl (by decide) ?_
          refine rj_iand dX7_bestAmong_22 rfl ?_
          refine rj_if_ne dX7_bestAmong_23 rfl rfl (fun h4 => ?_) (fun h4 => ?_)
          · have hq6 := hq5; rw [if_neg h4] at hq6
            refine rj_aload_n 1 dX7_bestAmong_36 rfl rfl ?_
            refine rj_iload_n 3 dX7_bestAmong_37 rfl rfl ?_
            refine rj_iald dX7_bestAmong_38 rfl (rj_lt hω (k := 16) rfl) (rj_sh hω ly_16) (rj_in h1 (Int32.not_le.mpr h3) rfl) ?_
            refine rj_bipush (v := 16) dX7_bestAmong_39 rfl (by decide) ?_
            refine rj_ishl dX7_bestAmong_41 rfl ?_
            refine rj_iconst (v := 1) dX7_bestAmong_42 rfl (by decide) ?_
            refine rj_iload_n 3 dX7_bestAmong_43 rfl rfl ?_
            refine rj_ishl dX7_bestAmong_44 rfl ?_
            refine rj_iadd dX7_bestAmong_45 rfl ?_
            refine rj_istore (l' := [(4, .int (((μ.1 16 a3.toNatClampNeg) <<< (16 &&& 31)) + (1 <<< (a3 &&& 31)))), (0, .ref (ω.2.2 15)), (1, .ref (ω.2.2 16)), (2, .int a2), (3, .int a3)]) dX7_bestAmong_46 rfl (rj_bl rfl) rfl ?_
            refine rj_iload 0 dX7_bestAmong_48 rfl rfl ?_
            refine rj_aload_n 1 dX7_bestAmong_50 rfl rfl ?_
            refine rj_aload_n 2 dX7_bestAmong_51 rfl rfl ?_
            refine rj_iload_n 3 dX7_bestAmong_52 rfl rfl ?_
            refine rj_aload_n 1 dX7_bestAmong_53 rfl rfl ?_
            refine rj_iload_n 4 dX7_bestAmong_54 rfl rfl ?_
            refine rj_iald dX7_bestAmong_55 rfl (rj_lt hω (k := 15) rfl) (rj_sh hω ly_15) (rj_in h1 (Int32.not_le.mpr h3) rfl) ?_
            refine rj_iconst (v := (-1)) dX7_bestAmong_56 rfl (by decide) ?_
            refine rj_ixor dX7_bestAmong_57 rfl ?_
            refine rj_iand dX7_bestAmong_58 rfl ?_
            refine rj_iload_n 4 dX7_bestAmong_59 rfl rfl ?_
            refine rj_iconst (v := 1) dX7_bestAmong_60 rfl (by decide) ?_
            refine rj_iadd dX7_bestAmong_61 rfl ?_
            refine rj_cS (rest := [.int (((μ.1 16 a3.toNatClampNeg) <<< (16 &&& 31)) + (1 <<< (a3 &&& 31)))]) (ih μ (a2 &&& ((μ.1 15 a3.toNatClampNeg) ^^^ (-1))) (a3 + 1)  (hq6).1) gX7_bestAmong_X7_bestAmong rfl hSX7_bestAmong ⟨by omega, by omega⟩ dX7_bestAmong_62 rfl rfl rfl (Nat.le_of_ble_eq_true rfl) rfl (Nat.le_of_ble_eq_true rfl) rfl ?_
            refine rj_iadd dX7_bestAmong_65 rfl ?_
            refine rj_istore (l' := [(5, .int ((((μ.1 16 a3.toNatClampNeg) <<< (16 &&& 31)) + (1 <<< (a3 &&& 31))) + (fX7_bestAmong n μ (a2 &&& ((μ.1 15 a3.toNatClampNeg) ^^^ (-1))) (a3 + 1)))), (4, .int (((μ.1 16 a3.toNatClampNeg) <<< (16 &&& 31)) + (1 <<< (a3 &&& 31)))), (0, .ref (ω.2.2 15)), (1, .ref (ω.2.2 16)), (2, .int a2), (3, .int a3)]) dX7_bestAmong_66 rfl (rj_bl rfl) rfl ?_
            refine rj_iload_n 4 dX7_bestAmong_68 rfl rfl ?_
            refine rj_aload_n 2 dX7_bestAmong_69 rfl rfl ?_
            refine rj_iload_n 5 dX7_bestAmong_70 rfl rfl ?_
            refine rj_iald dX7_bestAmong_71 rfl (rj_lt hω (k := 15) rfl) (rj_sh hω ly_15) (rj_in h1 (Int32.not_le.mpr h3) rfl) ?_
            refine rj_iand dX7_bestAmong_72 rfl ?_
            refine rj_if_ne dX7_bestAmong_73 rfl rfl (fun h5 => ?_) (fun h5 => ?_)
            · have hq7 := (hq6).2; rw [if_neg h5] at hq7
              refine rj_aload_n 2 dX7_bestAmong_79 rfl rfl ?_
              refine rj_aload_n 3 dX7_bestAmong_80 rfl rfl ?_
              refine rj_iload_n 4 dX7_bestAmong_81 rfl rfl ?_
              refine rj_iconst (v := 1) dX7_bestAmong_82 rfl (by decide) ?_
              refine rj_iload_n 5 dX7_bestAmong_83 rfl rfl ?_
              refine rj_ishl dX7_bestAmong_84 rfl ?_
              refine rj_iconst (v := (-1)) dX7_bestAmong_85 rfl (by decide) ?_
              refine rj_ixor dX7_bestAmong_86 rfl ?_
              refine rj_iand dX7_bestAmong_87 rfl ?_
              refine rj_iload_n 5 dX7_bestAmong_88 rfl rfl ?_
              refine rj_iconst (v := 1) dX7_bestAmong_89 rfl (by decide) ?_
              refine rj_iadd dX7_bestAmong_90 rfl ?_
              refine rj_cS (rest := []) (ih μ (a2 &&& ((1 <<< (a3 &&& 31)) ^^^ (-1))) (a3 + 1)  (hq7).1) gX7_bestAmong_X7_bestAmong rfl hSX7_bestAmong ⟨by omega, by omega⟩ dX7_bestAmong_91 rfl rfl rfl (Nat.le_of_ble_eq_true rfl) rfl (Nat.le_of_ble_eq_true rfl) rfl ?_
              refine rj_istore (l' := [(6, .int (fX7_bestAmong n μ (a2 &&& ((1 <<< (a3 &&& 31)) ^^^ (-1))) (a3 + 1))), (5, .int ((((μ.1 16 a3.toNatClampNeg) <<< (16 &&& 31)) + (1 <<< (a3 &&& 31))) + (fX7_bestAmong n μ (a2 &&& ((μ.1 15 a3.toNatClampNeg) ^^^ (-1))) (a3 + 1)))), (4, .int (((μ.1 16 a3.toNatClampNeg) <<< (16 &&& 31)) + (1 <<< (a3 &&& 31)))), (0, .ref (ω.2.2 15)), (1, .ref (ω.2.2 16)), (2, .int a2), (3, .int a3)]) dX7_bestAmong_94 rfl (rj_bl rfl) rfl ?_
              refine rj_iload 1 dX7_bestAmong_96 rfl rfl ?_
              refine rj_bipush (v := 16) dX7_bestAmong_98 rfl (by decide) ?_
              refine rj_ishr dX7_bestAmong_100 rfl ?_
              refine rj_iload 0 dX7_bestAmong_101 rfl rfl ?_
              refine rj_bipush (v := 16) dX7_bestAmong_103 rfl (by decide) ?_
              refine rj_ishr dX7_bestAmong_105 rfl ?_
              refine rj_icmp_lt dX7_bestAmong_106 rfl rfl (fun h6 => ?_) (fun h6 => ?_)
              · skip
                refine rj_iload 0 dX7_bestAmong_114 rfl rfl ?_
                exact rj_iret dX7_bestAmong_116 rfl (Nat.le_of_ble_eq_true rfl) (Nat.le_of_ble_eq_true rfl) ⟨(by rw [fX7_bestAmong_s]; rw [if_neg h1]; rw [if_neg h2]; rw [if_pos h3]; rw [if_neg h4]; rw [if_neg h5]; rw [if_pos h6]; try rfl), rfl, rfl⟩
              · skip
                refine rj_iload 1 dX7_bestAmong_109 rfl rfl ?_
                refine rj_goto dX7_bestAmong_111 rfl ?_
                exact rj_iret dX7_bestAmong_116 rfl (Nat.le_of_ble_eq_true rfl) (Nat.le_of_ble_eq_true rfl) ⟨(by rw [fX7_bestAmong_s]; rw [if_neg h1]; rw [if_neg h2]; rw [if_pos h3]; rw [if_neg h4]; rw [if_neg h5]; rw [if_neg h6]; try rfl), rfl, rfl⟩
            · have hq10 := (hq6).2; rw [if_pos h5] at hq10
              refine rj_iload 0 dX7_bestAmong_76 rfl rfl ?_
              exact rj_iret dX7_bestAmong_78 rfl (Nat.le_of_ble_eq_true rfl) (Nat.le_of_ble_eq_true rfl) ⟨(by rw [fX7_bestAmong_s]; rw [if_neg h1]; rw [if_neg h2]; rw [if_pos h3]; rw [if_neg h4]; rw [if_pos h5]; try rfl), rfl, rfl⟩
          · have hq11 := hq5; rw [if_pos h4] at hq11
            refine rj_aload_n 0 dX7_bestAmong_26 rfl rfl ?_
            refine rj_aload_n 1 dX7_bestAmong_27 rfl rfl ?_
            refine rj_iload_n 2 dX7_bestAmong_28 rfl rfl ?_
            refine rj_iload_n 3 dX7_bestAmong_29 rfl rfl ?_
            refine rj_iconst (v := 1) dX7_bestAmong_30 rfl (by decide) ?_
            refine rj_iadd dX7_bestAmong_31 rfl ?_
            refine rj_cS (rest := []) (ih μ a2 (a3 + 1)  (hq11).1) gX7_bestAmong_X7_bestAmong rfl hSX7_bestAmong ⟨by omega, by omega⟩ dX7_bestAmong_32 rfl rfl rfl (Nat.le_of_ble_eq_true rfl) rfl (Nat.le_of_ble_eq_true rfl) rfl ?_
            exact rj_iret dX7_bestAmong_35 rfl (Nat.le_of_ble_eq_true rfl) (Nat.le_of_ble_eq_true rfl) ⟨(by rw [fX7_bestAmong_s]; rw [if_neg h1]; rw [if_neg h2]; rw [if_pos h3]; rw [if_pos h4]; try rfl), rfl, rfl⟩
        · have hq12 := hq4; rw [if_neg h3] at hq12
          refine rj_iconst (v := 0) dX7_bestAmong_16 rfl (by decide) ?_
          exact rj_iret dX7_bestAmong_17 rfl (Nat.le_of_ble_eq_true rfl) (Nat.le_of_ble_eq_true rfl) ⟨(by rw [fX7_bestAmong_s]; rw [if_neg h1]; rw [if_neg h2]; rw [if_neg h3]; try rfl), rfl, rfl⟩
theorem hSX7_lineup : yX7_lineup.cls ≠ "java/lang/invoke/MethodHandle" ∧ yX7_lineup.cls ≠ "java/lang/invoke/VarHandle" ∧ (parseMethodDescriptor yX7_lineup.desc).map (fun d => d.parameters.length) = some 0 := by decide +kernel
theorem hVX7_lineup : yX7_lineup.cls = RX7 ∧ yX7_lineup.cls ≠ "java/lang/invoke/MethodHandle" ∧ yX7_lineup.cls ≠ "java/lang/invoke/VarHandle" ∧ (parseMethodDescriptor yX7_lineup.desc).map (fun d => d.parameters.length) = some 0 := by decide +kernel
theorem vX7_lineup_7 : ∀ w ∈ u_ws RX7 TX7 8, w ∈ wsX7_lineup := by decide +kernel
theorem kX7_lineup_30 : Cond.fieldLink RX7 30 (TX7 6).1 (TX7 6).2.1 (TX7 6).2.2.1 ∈ wsX7_lineup := by decide +kernel
theorem kX7_lineup_33 : Cond.fieldLink RX7 33 (TX7 7).1 (TX7 7).2.1 (TX7 7).2.2.1 ∈ wsX7_lineup := by decide +kernel
def fX7_lineup (μ : rj_M) : Int32 := ((fX7_bestAmong 17 (mX7_lookAtAll μ) (fX7_numbers (mX7_lookAtAll μ)) 0) &&& (65535))
def mX7_lineup (μ : rj_M) : rj_M := (mX7_lookAtAll μ)
def qX7_lineup (μ : rj_M) : Prop := (qX7_bestAmong 17 (mX7_lookAtAll μ) (fX7_numbers (mX7_lookAtAll μ)) 0 ∧ True)
set_option maxHeartbeats 40000000 in
set_option maxRecDepth 100000 in
theorem sX7_lineup {g : rj_G} {ω : rj_W} (hω : rj_ok ω) (μ : rj_M)   (hq : qX7_lineup μ) : rj_Sp g yX7_lineup wsX7_lineup (rj_rm 19 0) [.ref (ω.2.2 8)] ω μ (rj_D (.inl (some (.int (fX7_lineup μ)))) ω (mX7_lineup μ)) := by
  have hqa := hq
  unfold qX7_lineup at hqa
  refine rj_of' (cc := cX7_lineup) (nL := 1) (ret := (some .int)) (own := RX7) (l0 := [(0, .ref (ω.2.2 8))]) rfl (by decide +kernel) rfl (Nat.le_of_ble_eq_true rfl) rfl ?_
  refine rj_aload_n 0 dX7_lineup_0 rfl rfl ?_
  refine rj_cV (rest := []) (sX7_lookAtAll (g := g) (ω := ω) hω μ   ) gX7_lineup_X7_lookAtAll (rj_lt hω (k := 8) rfl) (rj_sh hω ly_8) rfl rfl hVX7_lookAtAll ⟨Nat.le_of_ble_eq_true rfl, Nat.le_of_ble_eq_true rfl⟩ dX7_lineup_1 rfl rfl rfl (Nat.le_of_ble_eq_true rfl) rfl (Nat.le_of_ble_eq_true rfl) rfl ?_
  refine rj_aload_n 0 dX7_lineup_4 rfl rfl ?_
  refine rj_getR (C0 := RX7) (T := TX7) (N := 8) (j := 6) (r := 15) dX7_lineup_5 rfl vX7_lineup_7 rfl (rj_lt hω (k := 8) rfl) (rj_sh hω ly_8) (by decide) kX7_lineup_30 rfl ?_
  refine rj_aload_n 0 dX7_lineup_8 rfl rfl ?_
  refine rj_getR (C0 := RX7) (T := TX7) (N := 8) (j := 7) (r := 16) dX7_lineup_9 rfl vX7_lineup_7 rfl (rj_lt hω (k := 8) rfl) (rj_sh hω ly_8) (by decide) kX7_lineup_33 rfl ?_
  refine rj_aload_n 0 dX7_lineup_12 rfl rfl ?_
  refine rj_cV (rest := [.ref (ω.2.2 16), .ref (ω.2.2 15)]) (sX7_numbers (g := g) (ω := ω) hω (mX7_lookAtAll μ)   ) gX7_lineup_X7_numbers (rj_lt hω (k := 8) rfl) (rj_sh hω ly_8) rfl rfl hVX7_numbers ⟨Nat.le_of_ble_eq_true rfl, Nat.le_of_ble_eq_true rfl⟩ dX7_lineup_13 rfl rfl rfl (Nat.le_of_ble_eq_true rfl) rfl (Nat.le_of_ble_eq_true rfl) rfl ?_
  refine rj_iconst (v := 0) dX7_lineup_16 rfl (by decide) ?_
  refine rj_cS (rest := []) (sX7_bestAmong (g := g) (ω := ω) hω 17 (mX7_lookAtAll μ) (fX7_numbers (mX7_lookAtAll μ)) 0   (hqa).1) gX7_lineup_X7_bestAmong rfl hSX7_bestAmong ⟨Nat.le_of_ble_eq_true rfl, Nat.le_of_ble_eq_true rfl⟩ dX7_lineup_17 rfl rfl rfl (Nat.le_of_ble_eq_true rfl) rfl (Nat.le_of_ble_eq_true rfl) rfl ?_
  refine rj_ldc (v := (65535)) dX7_lineup_20 rfl (by decide +kernel) ?_
  refine rj_iand dX7_lineup_22 rfl ?_
  exact rj_iret dX7_lineup_23 rfl (Nat.le_of_ble_eq_true rfl) (Nat.le_of_ble_eq_true rfl) ⟨(by unfold fX7_lineup; rfl), rfl, (by unfold mX7_lineup; rfl)⟩
theorem hSX7_bound : yX7_bound.cls ≠ "java/lang/invoke/MethodHandle" ∧ yX7_bound.cls ≠ "java/lang/invoke/VarHandle" ∧ (parseMethodDescriptor yX7_bound.desc).map (fun d => d.parameters.length) = some 0 := by decide +kernel
theorem hVX7_bound : yX7_bound.cls = RX7 ∧ yX7_bound.cls ≠ "java/lang/invoke/MethodHandle" ∧ yX7_bound.cls ≠ "java/lang/invoke/VarHandle" ∧ (parseMethodDescriptor yX7_bound.desc).map (fun d => d.parameters.length) = some 0 := by decide +kernel
theorem vX7_bound_7 : ∀ w ∈ u_ws RX7 TX7 8, w ∈ wsX7_bound := by decide +kernel
theorem kX7_bound_30 : Cond.fieldLink RX7 30 (TX7 6).1 (TX7 6).2.1 (TX7 6).2.2.1 ∈ wsX7_bound := by decide +kernel
theorem kX7_bound_33 : Cond.fieldLink RX7 33 (TX7 7).1 (TX7 7).2.1 (TX7 7).2.2.1 ∈ wsX7_bound := by decide +kernel
def bX7_bound_8 (μ : rj_M) (j8 : Nat) (s8 : Int32) : Int32 := (s8 + ((fX7_bestAmong 17 (mX7_lookAtAll μ) (fX7_numbersOn (mX7_lookAtAll μ) (nI j8)) 0) >>> (16 &&& 31)))
def qX7_bound_8 (μ : rj_M) (j8 : Nat) (s8 : Int32) : Prop := (qX7_bestAmong 17 (mX7_lookAtAll μ) (fX7_numbersOn (mX7_lookAtAll μ) (nI j8)) 0 ∧ True)
set_option maxHeartbeats 4000000 in
set_option maxRecDepth 100000 in
theorem lX7_bound_8 {g : rj_G} {ω : rj_W} (hω : rj_ok ω) (μ : rj_M)      {F : rj_F} : ∀ (r j : Nat) (s : Int32), j + r = 4 → rq_fo (qX7_bound_8 μ) (bX7_bound_8 μ) r j s → (rj_R g RX7 cX7_bound 3 (some .int) wsX7_bound [] (rj_rm 19 0) F 0 ω (mX7_lookAtAll μ) [(0, .ref (ω.2.2 8)), (1, .int (rj_fo (bX7_bound_8 μ) r j s)), (2, .int (nI 4))] 42 []) → rj_R g RX7 cX7_bound 3 (some .int) wsX7_bound [] (rj_rm 19 0) F 0 ω (mX7_lookAtAll μ) [(0, .ref (ω.2.2 8)), (1, .int s), (2, .int (nI j))] 8 [] := by
  intro r
  induction r with
  | zero =>
    intro j s hj hq0 K
    have e0 : j = 4 := by omega
    have hge : 4 ≤ nI j := by
      rw [e0]
      exact Int32.le_refl _
    refine rj_iload_n 2 dX7_bound_8 rfl rfl ?_
    refine rj_iconst (v := 4) dX7_bound_9 rfl (by decide) ?_
    refine rj_icmp_ge dX7_bound_10 rfl rfl (fun h2 => ?_) (fun h2 => ?_)
    · have e1 : nI j = nI 4 := by rw [e0]
      rw [e1]
      exact K
    · exact absurd hge h2
  | succ r ih =>
    intro j8 s8 hj hq0 K
    have hl8 : j8 < 4 := by omega
    have hg8 : ¬ 4 ≤ nI j8 := nI_ge hl8 (rj_bl rfl)
    rw [rq_fo_s] at hq0
    have hqa := hq0.1
    have hqn := hq0.2
    unfold qX7_bound_8 at hqa
    refine rj_iload_n 2 dX7_bound_8 rfl rfl ?_
    refine rj_iconst (v := 4) dX7_bound_9 rfl (by decide) ?_
    refine rj_icmp_ge dX7_bound_10 rfl rfl (fun h1 => ?_) (fun h1 => ?_)
    · exact absurd h1 hg8
    · refine rj_iload_n 1 dX7_bound_13 rfl rfl ?_
      refine rj_aload_n 0 dX7_bound_14 rfl rfl ?_
      refine rj_getR (C0 := RX7) (T := TX7) (N := 8) (j := 6) (r := 15) dX7_bound_15 rfl vX7_bound_7 rfl (rj_lt hω (k := 8) rfl) (rj_sh hω ly_8) (by decide) kX7_bound_30 rfl ?_
      refine rj_aload_n 0 dX7_bound_18 rfl rfl ?_
      refine rj_getR (C0 := RX7) (T := TX7) (N := 8) (j := 7) (r := 16) dX7_bound_19 rfl vX7_bound_7 rfl (rj_lt hω (k := 8) rfl) (rj_sh hω ly_8) (by decide) kX7_bound_33 rfl ?_
      refine rj_aload_n 0 dX7_bound_22 rfl rfl ?_
      refine rj_iload_n 2 dX7_bound_23 rfl rfl ?_
      refine rj_cV (rest := [.ref (ω.2.2 16), .ref (ω.2.2 15), .int s8]) (sX7_numbersOn (g := g) (ω := ω) hω (mX7_lookAtAll μ) (nI j8)   ) gX7_bound_X7_numbersOn (rj_lt hω (k := 8) rfl) (rj_sh hω ly_8) rfl rfl hVX7_numbersOn ⟨Nat.le_of_ble_eq_true rfl, Nat.le_of_ble_eq_true rfl⟩ dX7_bound_24 rfl rfl rfl (Nat.le_of_ble_eq_true rfl) rfl (Nat.le_of_ble_eq_true rfl) rfl ?_
      refine rj_iconst (v := 0) dX7_bound_27 rfl (by decide) ?_
      refine rj_cS (rest := [.int s8]) (sX7_bestAmong (g := g) (ω := ω) hω 17 (mX7_lookAtAll μ) (fX7_numbersOn (mX7_lookAtAll μ) (nI j8)) 0   (hqa).1) gX7_bound_X7_bestAmong rfl hSX7_bestAmong ⟨Nat.le_of_ble_eq_true rfl, Nat.le_of_ble_eq_true rfl⟩ dX7_bound_28 rfl rfl rfl (Nat.le_of_ble_eq_true rfl) rfl (Nat.le_of_ble_eq_true rfl) rfl ?_
      refine rj_bipush (v := 16) dX7_bound_31 rfl (by decide) ?_
      refine rj_ishr dX7_bound_33 rfl ?_
      refine rj_iadd dX7_bound_34 rfl ?_
      refine rj_istore_n (l' := [(1, .int (s8 + ((fX7_bestAmong 17 (mX7_lookAtAll μ) (fX7_numbersOn (mX7_lookAtAll μ) (nI j8)) 0) >>> (16 &&& 31)))), (0, .ref (ω.2.2 8)), (2, .int (nI j8))]) dX7_bound_35 rfl (rj_bl rfl) rfl ?_
      refine rj_iinc (v := nI (j8 + 1)) (l' := [(2, .int (nI (j8 + 1))), (1, .int (s8 + ((fX7_bestAmong 17 (mX7_lookAtAll μ) (fX7_numbersOn (mX7_lookAtAll μ) (nI j8)) 0) >>> (16 &&& 31)))), (0, .ref (ω.2.2 8))]) 2 dX7_bound_36 rfl rfl (nI_succ j8).symm (rj_bl rfl) rfl ?_
      refine rj_goto dX7_bound_39 rfl ?_
      have e : bX7_bound_8 μ j8 s8 = (s8 + ((fX7_bestAmong 17 (mX7_lookAtAll μ) (fX7_numbersOn (mX7_lookAtAll μ) (nI j8)) 0) >>> (16 &&& 31))) := by unfold bX7_bound_8; rfl
      exact rj_sub (l' := [(0, .ref (ω.2.2 8)), (1, .int (s8 + ((fX7_bestAmong 17 (mX7_lookAtAll μ) (fX7_numbersOn (mX7_lookAtAll μ) (nI j8)) 0) >>> (16 &&& 31)))), (2, .int (nI (j8 + 1)))]) [2, 1, 0] rfl (ih (j8 + 1) (s8 + ((fX7_bestAmong 17 (mX7_lookAtAll μ) (fX7_numbersOn (mX7_lookAtAll μ) (nI j8)) 0) >>> (16 &&& 31))) (by omega) (by have hz := hqn; rw [e] at hz; exact hz) (by rw [rj_fo_s, e] at K; exact K))
def fX7_bound (μ : rj_M) : Int32 := (rj_fo (bX7_bound_8 μ) 4 0 0)
def mX7_bound (μ : rj_M) : rj_M := (mX7_lookAtAll μ)
def qX7_bound (μ : rj_M) : Prop := (rq_fo (qX7_bound_8 μ) (bX7_bound_8 μ) 4 0 0 ∧ True)
set_option maxHeartbeats 40000000 in
set_option maxRecDepth 100000 in
theorem sX7_bound {g : rj_G} {ω : rj_W} (hω : rj_ok ω) (μ : rj_M)   (hq : qX7_bound μ) : rj_Sp g yX7_bound wsX7_bound (rj_rm 19 0) [.ref (ω.2.2 8)] ω μ (rj_D (.inl (some (.int (fX7_bound μ)))) ω (mX7_bound μ)) := by
  have hqa := hq
  unfold qX7_bound at hqa
  refine rj_of' (cc := cX7_bound) (nL := 3) (ret := (some .int)) (own := RX7) (l0 := [(0, .ref (ω.2.2 8))]) rfl (by decide +kernel) rfl (Nat.le_of_ble_eq_true rfl) rfl ?_
  refine rj_aload_n 0 dX7_bound_0 rfl rfl ?_
  refine rj_cV (rest := []) (sX7_lookAtAll (g := g) (ω := ω) hω μ   ) gX7_bound_X7_lookAtAll (rj_lt hω (k := 8) rfl) (rj_sh hω ly_8) rfl rfl hVX7_lookAtAll ⟨Nat.le_of_ble_eq_true rfl, Nat.le_of_ble_eq_true rfl⟩ dX7_bound_1 rfl rfl rfl (Nat.le_of_ble_eq_true rfl) rfl (Nat.le_of_ble_eq_true rfl) rfl ?_
  refine rj_iconst (v := 0) dX7_bound_4 rfl (by decide) ?_
  refine rj_istore_n (l' := [(1, .int 0), (0, .ref (ω.2.2 8))]) dX7_bound_5 rfl (rj_bl rfl) rfl ?_
  refine rj_iconst (v := 0) dX7_bound_6 rfl (by decide) ?_
  refine rj_istore_n (l' := [(2, .int 0), (1, .int 0), (0, .ref (ω.2.2 8))]) dX7_bound_7 rfl (rj_bl rfl) rfl ?_
  refine rj_sub (l' := [(0, .ref (ω.2.2 8)), (1, .int 0), (2, .int (nI 0))]) [2, 1, 0] rfl ?_
  refine lX7_bound_8 hω μ      4 0 0 rfl (hqa).1 ?_
  refine rj_iload_n 1 dX7_bound_42 rfl rfl ?_
  exact rj_iret dX7_bound_43 rfl (Nat.le_of_ble_eq_true rfl) (Nat.le_of_ble_eq_true rfl) ⟨(by unfold fX7_bound; rfl), rfl, (by unfold mX7_bound; rfl)⟩
theorem hSX11_actAt : yX11_actAt.cls ≠ "java/lang/invoke/MethodHandle" ∧ yX11_actAt.cls ≠ "java/lang/invoke/VarHandle" ∧ (parseMethodDescriptor yX11_actAt.desc).map (fun d => d.parameters.length) = some 2 := by decide +kernel
theorem hVX11_actAt : yX11_actAt.cls = RX11 ∧ yX11_actAt.cls ≠ "java/lang/invoke/MethodHandle" ∧ yX11_actAt.cls ≠ "java/lang/invoke/VarHandle" ∧ (parseMethodDescriptor yX11_actAt.desc).map (fun d => d.parameters.length) = some 2 := by decide +kernel
theorem vX11_actAt_11 : ∀ w ∈ u_ws RX11 TX11 6, w ∈ wsX11_actAt := by decide +kernel
theorem kX11_actAt_12 : Cond.fieldLink RX11 12 (TX11 0).1 (TX11 0).2.1 (TX11 0).2.2.1 ∈ wsX11_actAt := by decide +kernel
theorem vX11_actAt_5 : ∀ w ∈ u_ws RX5 TX5 8, w ∈ wsX11_actAt := by decide +kernel
theorem kX11_actAt_26 : Cond.fieldLink RX11 26 (TX5 2).1 (TX5 2).2.1 (TX5 2).2.2.1 ∈ wsX11_actAt := by decide +kernel
def fX11_actAt (μ : rj_M) (a0 : Int32) (a1 : Int32) : Int32 ⊕ String := (rj_bx (fX11_needAct μ a0) (rj_bx (fX11_needRange μ a1 0 6) (if a1 = 6 then (.inl (((fX7_lineup μ) >>> (a0 &&& 31)) &&& 1)) else (.inl (fX7_partOf μ a0 a1)))))
def mX11_actAt (μ : rj_M) (a0 : Int32) (a1 : Int32) : rj_M := (rj_bm (fX11_needAct μ a0) (rj_bm (fX11_needRange μ a1 0 6) (if a1 = 6 then (mX7_lineup μ) else μ) μ) μ)
def qX11_actAt (μ : rj_M) (a0 : Int32) (a1 : Int32) : Prop := (rq_bx (fX11_needAct μ a0) (rq_bx (fX11_needRange μ a1 0 6) (if a1 = 6 then (qX7_lineup μ ∧ True) else True)))
set_option maxHeartbeats 40000000 in
set_option maxRecDepth 100000 in
theorem sX11_actAt {g : rj_G} {ω : rj_W} (hω : rj_ok ω) (μ : rj_M) (a0 : Int32) (a1 : Int32)   (hq : qX11_actAt μ a0 a1) : rj_Sp g yX11_actAt wsX11_actAt (rj_rm 20 2) [.ref (ω.2.2 0), .int a0, .int a1] ω μ (rj_D (rj_oi (fX11_actAt μ a0 a1)) ω (mX11_actAt μ a0 a1)) := by
  have hqa := hq
  unfold qX11_actAt at hqa
  refine rj_of' (cc := cX11_actAt) (nL := 3) (ret := (some .int)) (own := RX11) (l0 := [(0, .ref (ω.2.2 0)), (1, .int a0), (2, .int a1)]) rfl (by decide +kernel) rfl (Nat.le_of_ble_eq_true rfl) rfl ?_
  refine rj_aload_n 0 dX11_actAt_0 rfl rfl ?_
  refine rj_iload_n 1 dX11_actAt_1 rfl rfl ?_
  refine rj_cVx (rest := []) (sX11_needAct (g := g) (ω := ω) hω μ a0   ) gX11_actAt_X11_needAct (rj_lt hω (k := 0) rfl) (rj_sh hω ly_0) rfl rfl hVX11_needAct ⟨Nat.le_of_ble_eq_true rfl, Nat.le_of_ble_eq_true rfl⟩ dX11_actAt_2 rfl rfl rfl (Nat.le_of_ble_eq_true rfl) rfl (Nat.le_of_ble_eq_true rfl) (fun E hE2 => ?_) (fun hx1 => ?_)
  · exact ⟨(by unfold fX11_actAt; try (rw [hE2]); try (simp only [rj_bx]); try rfl), rfl, (by unfold mX11_actAt; try (rw [hE2]); try (simp only [rj_bm]); try rfl)⟩
  · have hq1 := hqa; rw [hx1] at hq1; simp only [rq_bx] at hq1
    refine rj_iload_n 2 dX11_actAt_5 rfl rfl ?_
    refine rj_iconst (v := 0) dX11_actAt_6 rfl (by decide) ?_
    refine rj_bipush (v := 6) dX11_actAt_7 rfl (by decide) ?_
    refine rj_cSx (rest := []) (sX11_needRange (g := g) (ω := ω) hω μ a1 0 6   ) gX11_actAt_X11_needRange rfl hSX11_needRange ⟨Nat.le_of_ble_eq_true rfl, Nat.le_of_ble_eq_true rfl⟩ dX11_actAt_9 rfl rfl rfl (Nat.le_of_ble_eq_true rfl) rfl (Nat.le_of_ble_eq_true rfl) (fun E hE4 => ?_) (fun hx3 => ?_)
    · exact ⟨(by unfold fX11_actAt; try (rw [hx1]); try (simp only [rj_bx]); try (rw [hE4]); try (simp only [rj_bx]); try rfl), rfl, (by unfold mX11_actAt; try (rw [hx1]); try (simp only [rj_bm]); try (rw [hE4]); try (simp only [rj_bm]); try rfl)⟩
    · have hq2 := hq1; rw [hx3] at hq2; simp only [rq_bx] at hq2
      refine rj_iload_n 2 dX11_actAt_12 rfl rfl ?_
      refine rj_bipush (v := 6) dX11_actAt_13 rfl (by decide) ?_
      refine rj_icmp_ne dX11_actAt_15 rfl rfl (fun h5 => ?_) (fun h5 => ?_)
      · have hq3 := hq2; rw [if_neg h5] at hq3
        refine rj_aload_n 0 dX11_actAt_33 rfl rfl ?_
        refine rj_getR (C0 := RX11) (T := TX11) (N := 6) (j := 0) (r := 1) dX11_actAt_34 rfl vX11_actAt_11 rfl (rj_lt hω (k := 0) rfl) (rj_sh hω ly_0) (by decide) kX11_actAt_12 rfl ?_
        refine rj_getR (C0 := RX5) (T := TX5) (N := 8) (j := 2) (r := 8) dX11_actAt_37 rfl vX11_actAt_5 rfl (rj_lt hω (k := 1) rfl) (rj_sh hω ly_1) (by decide) kX11_actAt_26 rfl ?_
        refine rj_iload_n 1 dX11_actAt_40 rfl rfl ?_
        refine rj_iload_n 2 dX11_actAt_41 rfl rfl ?_
        refine rj_cV (rest := []) (sX7_partOf (g := g) (ω := ω) hω μ a0 a1   ) gX11_actAt_X7_partOf (rj_lt hω (k := 8) rfl) (rj_sh hω ly_8) rfl rfl hVX7_partOf ⟨Nat.le_of_ble_eq_true rfl, Nat.le_of_ble_eq_true rfl⟩ dX11_actAt_42 rfl rfl rfl (Nat.le_of_ble_eq_true rfl) rfl (Nat.le_of_ble_eq_true rfl) rfl ?_
        exact rj_iret dX11_actAt_45 rfl (Nat.le_of_ble_eq_true rfl) (Nat.le_of_ble_eq_true rfl) ⟨(by unfold fX11_actAt; try (rw [hx1]); try (simp only [rj_bx]); try (rw [hx3]); try (simp only [rj_bx]); try (rw [if_neg h5]); try rfl), rfl, (by unfold mX11_actAt; try (rw [hx1]); try (simp only [rj_bm]); try (rw [hx3]); try (simp only [rj_bm]); try (rw [if_neg h5]); try rfl)⟩
      · have hq4 := hq2; rw [if_pos h5] at hq4
        refine rj_aload_n 0 dX11_actAt_18 rfl rfl ?_
        refine rj_getR (C0 := RX11) (T := TX11) (N := 6) (j := 0) (r := 1) dX11_actAt_19 rfl vX11_actAt_11 rfl (rj_lt hω (k := 0) rfl) (rj_sh hω ly_0) (by decide) kX11_actAt_12 rfl ?_
        refine rj_getR (C0 := RX5) (T := TX5) (N := 8) (j := 2) (r := 8) dX11_actAt_22 rfl vX11_actAt_5 rfl (rj_lt hω (k := 1) rfl) (rj_sh hω ly_1) (by decide) kX11_actAt_26 rfl ?_
        refine rj_cV (rest := []) (sX7_lineup (g := g) (ω := ω) hω μ   (hq4).1) gX11_actAt_X7_lineup (rj_lt hω (k := 8) rfl) (rj_sh hω ly_8) rfl rfl hVX7_lineup ⟨Nat.le_of_ble_eq_true rfl, Nat.le_of_ble_eq_true rfl⟩ dX11_actAt_25 rfl rfl rfl (Nat.le_of_ble_eq_true rfl) rfl (Nat.le_of_ble_eq_true rfl) rfl ?_
        refine rj_iload_n 1 dX11_actAt_28 rfl rfl ?_
        refine rj_ishr dX11_actAt_29 rfl ?_
        refine rj_iconst (v := 1) dX11_actAt_30 rfl (by decide) ?_
        refine rj_iand dX11_actAt_31 rfl ?_
        exact rj_iret dX11_actAt_32 rfl (Nat.le_of_ble_eq_true rfl) (Nat.le_of_ble_eq_true rfl) ⟨(by unfold fX11_actAt; try (rw [hx1]); try (simp only [rj_bx]); try (rw [hx3]); try (simp only [rj_bx]); try (rw [if_pos h5]); try rfl), rfl, (by unfold mX11_actAt; try (rw [hx1]); try (simp only [rj_bm]); try (rw [hx3]); try (simp only [rj_bm]); try (rw [if_pos h5]); try rfl)⟩
theorem hSX11_pleased : yX11_pleased.cls ≠ "java/lang/invoke/MethodHandle" ∧ yX11_pleased.cls ≠ "java/lang/invoke/VarHandle" ∧ (parseMethodDescriptor yX11_pleased.desc).map (fun d => d.parameters.length) = some 1 := by decide +kernel
theorem hVX11_pleased : yX11_pleased.cls = RX11 ∧ yX11_pleased.cls ≠ "java/lang/invoke/MethodHandle" ∧ yX11_pleased.cls ≠ "java/lang/invoke/VarHandle" ∧ (parseMethodDescriptor yX11_pleased.desc).map (fun d => d.parameters.length) = some 1 := by decide +kernel
theorem vX11_pleased_11 : ∀ w ∈ u_ws RX11 TX11 6, w ∈ wsX11_pleased := by decide +kernel
theorem kX11_pleased_12 : Cond.fieldLink RX11 12 (TX11 0).1 (TX11 0).2.1 (TX11 0).2.2.1 ∈ wsX11_pleased := by decide +kernel
theorem vX11_pleased_5 : ∀ w ∈ u_ws RX5 TX5 8, w ∈ wsX11_pleased := by decide +kernel
theorem kX11_pleased_26 : Cond.fieldLink RX11 26 (TX5 2).1 (TX5 2).2.1 (TX5 2).2.2.1 ∈ wsX11_pleased := by decide +kernel
def fX11_pleased (μ : rj_M) (a0 : Int32) : Int32 := (if a0 = 0 then (fX7_pleasingOfAll (mX7_lineup μ) (fX7_lineup μ)) else (fX7_bound μ))
def mX11_pleased (μ : rj_M) (a0 : Int32) : rj_M := (if a0 = 0 then (mX7_lineup μ) else (mX7_bound μ))
def qX11_pleased (μ : rj_M) (a0 : Int32) : Prop := (if a0 = 0 then (qX7_lineup μ ∧ True) else (qX7_bound μ ∧ True))
set_option maxHeartbeats 40000000 in
set_option maxRecDepth 100000 in
theorem sX11_pleased {g : rj_G} {ω : rj_W} (hω : rj_ok ω) (μ : rj_M) (a0 : Int32)   (hq : qX11_pleased μ a0) : rj_Sp g yX11_pleased wsX11_pleased (rj_rm 20 0) [.ref (ω.2.2 0), .int a0] ω μ (rj_D (.inl (some (.int (fX11_pleased μ a0)))) ω (mX11_pleased μ a0)) := by
  have hqa := hq
  unfold qX11_pleased at hqa
  refine rj_of' (cc := cX11_pleased) (nL := 2) (ret := (some .int)) (own := RX11) (l0 := [(0, .ref (ω.2.2 0)), (1, .int a0)]) rfl (by decide +kernel) rfl (Nat.le_of_ble_eq_true rfl) rfl ?_
  refine rj_iload_n 1 dX11_pleased_0 rfl rfl ?_
  refine rj_if_eq dX11_pleased_1 rfl rfl (fun h1 => ?_) (fun h1 => ?_)
  · have hq1 := hqa; rw [if_pos h1] at hq1
    refine rj_aload_n 0 dX11_pleased_15 rfl rfl ?_
    refine rj_getR (C0 := RX11) (T := TX11) (N := 6) (j := 0) (r := 1) dX11_pleased_16 rfl vX11_pleased_11 rfl (rj_lt hω (k := 0) rfl) (rj_sh hω ly_0) (by decide) kX11_pleased_12 rfl ?_
    refine rj_getR (C0 := RX5) (T := TX5) (N := 8) (j := 2) (r := 8) dX11_pleased_19 rfl vX11_pleased_5 rfl (rj_lt hω (k := 1) rfl) (rj_sh hω ly_1) (by decide) kX11_pleased_26 rfl ?_
    refine rj_aload_n 0 dX11_pleased_22 rfl rfl ?_
    refine rj_getR (C0 := RX11) (T := TX11) (N := 6) (j := 0) (r := 1) dX11_pleased_23 rfl vX11_pleased_11 rfl (rj_lt hω (k := 0) rfl) (rj_sh hω ly_0) (by decide) kX11_pleased_12 rfl ?_
    refine rj_getR (C0 := RX5) (T := TX5) (N := 8) (j := 2) (r := 8) dX11_pleased_26 rfl vX11_pleased_5 rfl (rj_lt hω (k := 1) rfl) (rj_sh hω ly_1) (by decide) kX11_pleased_26 rfl ?_
    refine rj_cV (rest := [.ref (ω.2.2 8)]) (sX7_lineup (g := g) (ω := ω) hω μ   (hq1).1) gX11_pleased_X7_lineup (rj_lt hω (k := 8) rfl) (rj_sh hω ly_8) rfl rfl hVX7_lineup ⟨Nat.le_of_ble_eq_true rfl, Nat.le_of_ble_eq_true rfl⟩ dX11_pleased_29 rfl rfl rfl (Nat.le_of_ble_eq_true rfl) rfl (Nat.le_of_ble_eq_true rfl) rfl ?_
    refine rj_cV (rest := []) (sX7_pleasingOfAll (g := g) (ω := ω) hω (mX7_lineup μ) (fX7_lineup μ)   ) gX11_pleased_X7_pleasingOfAll (rj_lt hω (k := 8) rfl) (rj_sh hω ly_8) rfl rfl hVX7_pleasingOfAll ⟨Nat.le_of_ble_eq_true rfl, Nat.le_of_ble_eq_true rfl⟩ dX11_pleased_32 rfl rfl rfl (Nat.le_of_ble_eq_true rfl) rfl (Nat.le_of_ble_eq_true rfl) rfl ?_
    exact rj_iret dX11_pleased_35 rfl (Nat.le_of_ble_eq_true rfl) (Nat.le_of_ble_eq_true rfl) ⟨(by unfold fX11_pleased; rw [if_pos h1]; try rfl), rfl, (by unfold mX11_pleased; rw [if_pos h1]; try rfl)⟩
  · have hq2 := hqa; rw [if_neg h1] at hq2
    refine rj_aload_n 0 dX11_pleased_4 rfl rfl ?_
    refine rj_getR (C0 := RX11) (T := TX11) (N := 6) (j := 0) (r := 1) dX11_pleased_5 rfl vX11_pleased_11 rfl (rj_lt hω (k := 0) rfl) (rj_sh hω ly_0) (by decide) kX11_pleased_12 rfl ?_
    refine rj_getR (C0 := RX5) (T := TX5) (N := 8) (j := 2) (r := 8) dX11_pleased_8 rfl vX11_pleased_5 rfl (rj_lt hω (k := 1) rfl) (rj_sh hω ly_1) (by decide) kX11_pleased_26 rfl ?_
    refine rj_cV (rest := []) (sX7_bound (g := g) (ω := ω) hω μ   (hq2).1) gX11_pleased_X7_bound (rj_lt hω (k := 8) rfl) (rj_sh hω ly_8) rfl rfl hVX7_bound ⟨Nat.le_of_ble_eq_true rfl, Nat.le_of_ble_eq_true rfl⟩ dX11_pleased_11 rfl rfl rfl (Nat.le_of_ble_eq_true rfl) rfl (Nat.le_of_ble_eq_true rfl) rfl ?_
    exact rj_iret dX11_pleased_14 rfl (Nat.le_of_ble_eq_true rfl) (Nat.le_of_ble_eq_true rfl) ⟨(by unfold fX11_pleased; rw [if_neg h1]; try rfl), rfl, (by unfold mX11_pleased; rw [if_neg h1]; try rfl)⟩
