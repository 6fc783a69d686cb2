/-! THE REFERENCE'S CONSTRUCTOR -/
set_option maxRecDepth 100000 in
theorem wX12_init_1 : Cond.methodLink RX12 1 Lib.objectInit ∈ wsX12_init := by decide +kernel
theorem wX12_init_2 : Cond.instanceMethod Lib.objectInit ∈ wsX12_init := by decide +kernel
theorem wX12_init_3 : Cond.code Lib.objectInit ⟨#[0xb1]⟩ 1 none ∈ wsX12_init := by decide +kernel
theorem wX12_init_a : Cond.arrayClass .int ∈ wsX12_init := by decide +kernel
theorem wX12_init_m : Cond.classLink RX12 13 "[[I" ∈ wsX12_init := by decide +kernel
theorem vX12_init_12 : ∀ w ∈ u_ws RX12 TX12 16, w ∈ wsX12_init := by decide +kernel
theorem kX12_init_9 : Cond.fieldLink RX12 9 (TX12 1).1 (TX12 1).2.1 (TX12 1).2.2.1 ∈ wsX12_init := by decide +kernel
theorem kX12_init_15 : Cond.fieldLink RX12 15 (TX12 2).1 (TX12 2).2.1 (TX12 2).2.2.1 ∈ wsX12_init := by decide +kernel
theorem kX12_init_18 : Cond.fieldLink RX12 18 (TX12 6).1 (TX12 6).2.1 (TX12 6).2.2.1 ∈ wsX12_init := by decide +kernel
theorem kX12_init_21 : Cond.fieldLink RX12 21 (TX12 7).1 (TX12 7).2.1 (TX12 7).2.2.1 ∈ wsX12_init := by decide +kernel
theorem kX12_init_24 : Cond.fieldLink RX12 24 (TX12 9).1 (TX12 9).2.1 (TX12 9).2.2.1 ∈ wsX12_init := by decide +kernel
theorem kX12_init_27 : Cond.fieldLink RX12 27 (TX12 10).1 (TX12 10).2.1 (TX12 10).2.2.1 ∈ wsX12_init := by decide +kernel
theorem kX12_init_30 : Cond.fieldLink RX12 30 (TX12 12).1 (TX12 12).2.1 (TX12 12).2.2.1 ∈ wsX12_init := by decide +kernel
theorem kX12_init_33 : Cond.fieldLink RX12 33 (TX12 13).1 (TX12 13).2.1 (TX12 13).2.2.1 ∈ wsX12_init := by decide +kernel
theorem kX12_init_36 : Cond.fieldLink RX12 36 (TX12 14).1 (TX12 14).2.1 (TX12 14).2.2.1 ∈ wsX12_init := by decide +kernel
theorem rj_rows397 : ∀ i, i < 8 → rj_lay (397 + 1 + i) = .inl (0, 625) := by decide +kernel
theorem rj_rows409 : ∀ i, i < 25 → rj_lay (409 + 1 + i) = .inl (0, 16) := by decide +kernel
/-- a row of numbers, the same value from a place on -/
def fX12_fill (base : Nat) (v : Int32) (j : Nat) (s : rj_M) : rj_M := rj_pi s 396 (base + j) v
def fX12_ways (j : Nat) (s : rj_M) : rj_M := rj_pi s 396 (7 + j) (if j % 5 = 0 then 0 else 10)
def mX12_a (μ : rj_M) : rj_M := rj_z (rj_z (rj_z (rj_mna (rj_z (rj_z (rj_z (rj_mna (rj_z μ 396) 397 8) 406) 407) 408) 409 25) 435) 436) 437
def mX12_b (μ : rj_M) : rj_M := rj_pi (rj_pi (rj_pi μ 396 0 2026) 396 1 6) 396 2 1
def mX12_init (μ : rj_M) : rj_M := rj_fo (fX12_fill 525 (-1)) 100 0 (rj_fo (fX12_fill 452 (-1)) 48 0 (rj_fo (fX12_fill 448 20) 4 0 (rj_pi (rj_pi (rj_fo (fX12_fill 314 10) 12 0 (rj_fo fX12_ways 16 0 (mX12_b (mX12_a μ)))) 396 330 3) 396 411 8)))
theorem rj_fo2 {f : Nat → rj_M → rj_M} (hf : ∀ j s, (f j s).2 = s.2) : ∀ (r j : Nat) (s : rj_M), (rj_fo f r j s).2 = s.2
  | 0, _, _ => rfl
  | r + 1, j, s => by rw [rj_fo_s, rj_fo2 hf r (j + 1) (f j s), hf]
set_option maxHeartbeats 4000000 in
set_option maxRecDepth 100000 in
theorem lX12_init_112 {g : rj_G} {ω : rj_W} {F : rj_F} {u : Nat} (hn : ω.1 = 438) (hs : ω.2.1 = rj_lay) : ∀ (r j : Nat) (s : rj_M), j + r = 16 → (rj_R g RX12 cX12_init 2 none wsX12_init [] (rj_rm 8 1000) F u ω (rj_fo fX12_ways r j s) [(0, .ref (ω.2.2 395)), (1, .int (nI 16))] 145 []) → rj_R g RX12 cX12_init 2 none wsX12_init [] (rj_rm 8 1000) F u ω s [(0, .ref (ω.2.2 395)), (1, .int (nI j))] 112 [] := by
  intro r
  induction r with
  | zero =>
    intro j s hj K
    have e0 : j = 16 := by omega
    subst e0
    refine rj_iload_n 1 dX12_init_112 rfl rfl ?_
    refine rj_bipush (v := 16) dX12_init_113 rfl (by decide) ?_
    exact rj_icmp_ge dX12_init_115 rfl rfl (fun _ => K) (fun h => absurd (Int32.le_refl _) h)
  | succ r ih =>
    intro j s hj K
    have hl : j < 16 := by omega
    refine rj_iload_n 1 dX12_init_112 rfl rfl ?_
    refine rj_bipush (v := 16) dX12_init_113 rfl (by decide) ?_
    refine rj_icmp_ge dX12_init_115 rfl rfl (fun h => absurd h (nI_ge hl (rj_bl rfl))) (fun _ => ?_)
    refine rj_aload_n 0 dX12_init_118 rfl rfl ?_
    refine rj_getR (C0 := RX12) (T := TX12) (N := 16) (j := 1) (r := 396) dX12_init_119 rfl vX12_init_12 rfl (by omega) (by rw [hs]; exact ly_395) (by decide) kX12_init_9 rfl ?_
    refine rj_bipush (v := 7) dX12_init_122 rfl (by decide) ?_
    refine rj_iload_n 1 dX12_init_124 rfl rfl ?_
    refine rj_iadd dX12_init_125 rfl ?_
    have eb : (7 : Int32) + nI j = nI (7 + j) := by rw [show (7 : Int32) = nI 7 from rfl, nI_add]
    rw [eb]
    refine rj_iload_n 1 dX12_init_126 rfl rfl ?_
    refine rj_iconst (v := 5) dX12_init_127 rfl (by decide) ?_
    refine rj_irem dX12_init_128 rfl (by decide) ?_
    have er : nI j - nI j / 5 * 5 = nI (j % 5) := by
      have h := (show ∀ j, j < 16 → nI j - nI j / 5 * 5 = nI (j % 5) by decide +kernel) j hl
      exact h
    rw [er]
    have KK : rj_R g RX12 cX12_init 2 none wsX12_init [] (rj_rm 8 1000) F u ω (rj_fo fX12_ways r (j + 1) (rj_pi s 396 (7 + j) (if j % 5 = 0 then 0 else 10))) [(0, .ref (ω.2.2 395)), (1, .int (nI 16))] 145 [] := K
    refine rj_if_ne dX12_init_129 rfl rfl (fun h => ?_) (fun h => ?_)
    · have h5 : ¬ j % 5 = 0 := fun z => h (by rw [z]; rfl)
      rw [if_neg h5] at KK
      refine rj_bipush (v := 10) dX12_init_136 rfl (by decide) ?_
      refine rj_iast dX12_init_138 rfl (by omega) (by rw [hs]; exact ly_396) (vp_in_nI (by omega) (by decide)) ?_
      refine rj_iinc (v := nI (j + 1)) (l' := [(1, .int (nI (j + 1))), (0, .ref (ω.2.2 395))]) 1 dX12_init_139 rfl rfl (nI_succ j).symm (rj_bl rfl) rfl ?_
      refine rj_goto dX12_init_142 rfl ?_
      have en : (nI (7 + j)).toNatClampNeg = 7 + j := nI_clamp (by omega)
      rw [en]
      exact rj_sub (l' := [(0, .ref (ω.2.2 395)), (1, .int (nI (j + 1)))]) [1, 0] rfl (ih (j + 1) _ (by omega) KK)
    · have h5 : j % 5 = 0 := (nI_eq (a := j % 5) (b := 0) (by omega) (by decide)).mp h
      rw [if_pos h5] at KK
      refine rj_iconst (v := 0) dX12_init_132 rfl (by decide) ?_
      refine rj_goto dX12_init_133 rfl ?_
      refine rj_iast dX12_init_138 rfl (by omega) (by rw [hs]; exact ly_396) (vp_in_nI (by omega) (by decide)) ?_
      refine rj_iinc (v := nI (j + 1)) (l' := [(1, .int (nI (j + 1))), (0, .ref (ω.2.2 395))]) 1 dX12_init_139 rfl rfl (nI_succ j).symm (rj_bl rfl) rfl ?_
      refine rj_goto dX12_init_142 rfl ?_
      have en : (nI (7 + j)).toNatClampNeg = 7 + j := nI_clamp (by omega)
      rw [en]
      exact rj_sub (l' := [(0, .ref (ω.2.2 395)), (1, .int (nI (j + 1)))]) [1, 0] rfl (ih (j + 1) _ (by omega) KK)
set_option maxHeartbeats 4000000 in
set_option maxRecDepth 100000 in
theorem lX12_init_147 {g : rj_G} {ω : rj_W} {F : rj_F} {u : Nat} (hn : ω.1 = 438) (hs : ω.2.1 = rj_lay) : ∀ (r j : Nat) (s : rj_M), j + r = 12 → (rj_R g RX12 cX12_init 2 none wsX12_init [] (rj_rm 8 1000) F u ω (rj_fo (fX12_fill 314 10) r j s) [(0, .ref (ω.2.2 395)), (1, .int (nI 12))] 171 []) → rj_R g RX12 cX12_init 2 none wsX12_init [] (rj_rm 8 1000) F u ω s [(0, .ref (ω.2.2 395)), (1, .int (nI j))] 147 [] := by
  intro r
  induction r with
  | zero =>
    intro j s hj K
    have e0 : j = 12 := by omega
    subst e0
    refine rj_iload_n 1 dX12_init_147 rfl rfl ?_
    refine rj_bipush (v := 12) dX12_init_148 rfl (by decide) ?_
    exact rj_icmp_ge dX12_init_150 rfl rfl (fun _ => K) (fun h => absurd (Int32.le_refl _) h)
  | succ r ih =>
    intro j s hj K
    have hl : j < 12 := by omega
    refine rj_iload_n 1 dX12_init_147 rfl rfl ?_
    refine rj_bipush (v := 12) dX12_init_148 rfl (by decide) ?_
    refine rj_icmp_ge dX12_init_150 rfl rfl (fun h => absurd h (nI_ge hl (rj_bl rfl))) (fun _ => ?_)
    refine rj_aload_n 0 dX12_init_153 rfl rfl ?_
    refine rj_getR (C0 := RX12) (T := TX12) (N := 16) (j := 1) (r := 396) dX12_init_154 rfl vX12_init_12 rfl (by omega) (by rw [hs]; exact ly_395) (by decide) kX12_init_9 rfl ?_
    refine rj_sipush (v := 314) dX12_init_157 rfl (by decide) ?_
    refine rj_iload_n 1 dX12_init_160 rfl rfl ?_
    refine rj_iadd dX12_init_161 rfl ?_
    have eb : (314 : Int32) + nI j = nI (314 + j) := by rw [show (314 : Int32) = nI 314 from rfl, nI_add]
    rw [eb]
    have KK : rj_R g RX12 cX12_init 2 none wsX12_init [] (rj_rm 8 1000) F u ω (rj_fo (fX12_fill 314 10) r (j + 1) (rj_pi s 396 (314 + j) 10)) [(0, .ref (ω.2.2 395)), (1, .int (nI 12))] 171 [] := K
    refine rj_bipush (v := 10) dX12_init_162 rfl (by decide) ?_
    refine rj_iast dX12_init_164 rfl (by omega) (by rw [hs]; exact ly_396) (vp_in_nI (by omega) (by decide)) ?_
    refine rj_iinc (v := nI (j + 1)) (l' := [(1, .int (nI (j + 1))), (0, .ref (ω.2.2 395))]) 1 dX12_init_165 rfl rfl (nI_succ j).symm (rj_bl rfl) rfl ?_
    refine rj_goto dX12_init_168 rfl ?_
    have en : (nI (314 + j)).toNatClampNeg = 314 + j := nI_clamp (by omega)
    rw [en]
    exact rj_sub (l' := [(0, .ref (ω.2.2 395)), (1, .int (nI (j + 1)))]) [1, 0] rfl (ih (j + 1) _ (by omega) KK)
set_option maxHeartbeats 4000000 in
set_option maxRecDepth 100000 in
theorem lX12_init_192 {g : rj_G} {ω : rj_W} {F : rj_F} {u : Nat} (hn : ω.1 = 438) (hs : ω.2.1 = rj_lay) : ∀ (r j : Nat) (s : rj_M), j + r = 4 → (rj_R g RX12 cX12_init 2 none wsX12_init [] (rj_rm 8 1000) F u ω (rj_fo (fX12_fill 448 20) r j s) [(0, .ref (ω.2.2 395)), (1, .int (nI 4))] 215 []) → rj_R g RX12 cX12_init 2 none wsX12_init [] (rj_rm 8 1000) F u ω s [(0, .ref (ω.2.2 395)), (1, .int (nI j))] 192 [] := by
  intro r
  induction r with
  | zero =>
    intro j s hj K
    have e0 : j = 4 := by omega
    subst e0
    refine rj_iload_n 1 dX12_init_192 rfl rfl ?_
    refine rj_iconst (v := 4) dX12_init_193 rfl (by decide) ?_
    exact rj_icmp_ge dX12_init_194 rfl rfl (fun _ => K) (fun h => absurd (Int32.le_refl _) h)
  | succ r ih =>
    intro j s hj K
    have hl : j < 4 := by omega
    refine rj_iload_n 1 dX12_init_192 rfl rfl ?_
    refine rj_iconst (v := 4) dX12_init_193 rfl (by decide) ?_
    refine rj_icmp_ge dX12_init_194 rfl rfl (fun h => absurd h (nI_ge hl (rj_bl rfl))) (fun _ => ?_)
    refine rj_aload_n 0 dX12_init_197 rfl rfl ?_
    refine rj_getR (C0 := RX12) (T := TX12) (N := 16) (j := 1) (r := 396) dX12_init_198 rfl vX12_init_12 rfl (by omega) (by rw [hs]; exact ly_395) (by decide) kX12_init_9 rfl ?_
    refine rj_sipush (v := 448) dX12_init_201 rfl (by decide) ?_
    refine rj_iload_n 1 dX12_init_204 rfl rfl ?_
    refine rj_iadd dX12_init_205 rfl ?_
    have eb : (448 : Int32) + nI j = nI (448 + j) := by rw [show (448 : Int32) = nI 448 from rfl, nI_add]
    rw [eb]
    have KK : rj_R g RX12 cX12_init 2 none wsX12_init [] (rj_rm 8 1000) F u ω (rj_fo (fX12_fill 448 20) r (j + 1) (rj_pi s 396 (448 + j) 20)) [(0, .ref (ω.2.2 395)), (1, .int (nI 4))] 215 [] := K
    refine rj_bipush (v := 20) dX12_init_206 rfl (by decide) ?_
    refine rj_iast dX12_init_208 rfl (by omega) (by rw [hs]; exact ly_396) (vp_in_nI (by omega) (by decide)) ?_
    refine rj_iinc (v := nI (j + 1)) (l' := [(1, .int (nI (j + 1))), (0, .ref (ω.2.2 395))]) 1 dX12_init_209 rfl rfl (nI_succ j).symm (rj_bl rfl) rfl ?_
    refine rj_goto dX12_init_212 rfl ?_
    have en : (nI (448 + j)).toNatClampNeg = 448 + j := nI_clamp (by omega)
    rw [en]
    exact rj_sub (l' := [(0, .ref (ω.2.2 395)), (1, .int (nI (j + 1)))]) [1, 0] rfl (ih (j + 1) _ (by omega) KK)
set_option maxHeartbeats 4000000 in
set_option maxRecDepth 100000 in
theorem lX12_init_217 {g : rj_G} {ω : rj_W} {F : rj_F} {u : Nat} (hn : ω.1 = 438) (hs : ω.2.1 = rj_lay) : ∀ (r j : Nat) (s : rj_M), j + r = 48 → (rj_R g RX12 cX12_init 2 none wsX12_init [] (rj_rm 8 1000) F u ω (rj_fo (fX12_fill 452 (-1)) r j s) [(0, .ref (ω.2.2 395)), (1, .int (nI 48))] 240 []) → rj_R g RX12 cX12_init 2 none wsX12_init [] (rj_rm 8 1000) F u ω s [(0, .ref (ω.2.2 395)), (1, .int (nI j))] 217 [] := by
  intro r
  induction r with
  | zero =>
    intro j s hj K
    have e0 : j = 48 := by omega
    subst e0
    refine rj_iload_n 1 dX12_init_217 rfl rfl ?_
    refine rj_bipush (v := 48) dX12_init_218 rfl (by decide) ?_
    exact rj_icmp_ge dX12_init_220 rfl rfl (fun _ => K) (fun h => absurd (Int32.le_refl _) h)
  | succ r ih =>
    intro j s hj K
    have hl : j < 48 := by omega
    refine rj_iload_n 1 dX12_init_217 rfl rfl ?_
    refine rj_bipush (v := 48) dX12_init_218 rfl (by decide) ?_
    refine rj_icmp_ge dX12_init_220 rfl rfl (fun h => absurd h (nI_ge hl (rj_bl rfl))) (fun _ => ?_)
    refine rj_aload_n 0 dX12_init_223 rfl rfl ?_
    refine rj_getR (C0 := RX12) (T := TX12) (N := 16) (j := 1) (r := 396) dX12_init_224 rfl vX12_init_12 rfl (by omega) (by rw [hs]; exact ly_395) (by decide) kX12_init_9 rfl ?_
    refine rj_sipush (v := 452) dX12_init_227 rfl (by decide) ?_
    refine rj_iload_n 1 dX12_init_230 rfl rfl ?_
    refine rj_iadd dX12_init_231 rfl ?_
    have eb : (452 : Int32) + nI j = nI (452 + j) := by rw [show (452 : Int32) = nI 452 from rfl, nI_add]
    rw [eb]
    have KK : rj_R g RX12 cX12_init 2 none wsX12_init [] (rj_rm 8 1000) F u ω (rj_fo (fX12_fill 452 (-1)) r (j + 1) (rj_pi s 396 (452 + j) (-1))) [(0, .ref (ω.2.2 395)), (1, .int (nI 48))] 240 [] := K
    refine rj_iconst (v := (-1)) dX12_init_232 rfl (by decide) ?_
    refine rj_iast dX12_init_233 rfl (by omega) (by rw [hs]; exact ly_396) (vp_in_nI (by omega) (by decide)) ?_
    refine rj_iinc (v := nI (j + 1)) (l' := [(1, .int (nI (j + 1))), (0, .ref (ω.2.2 395))]) 1 dX12_init_234 rfl rfl (nI_succ j).symm (rj_bl rfl) rfl ?_
    refine rj_goto dX12_init_237 rfl ?_
    have en : (nI (452 + j)).toNatClampNeg = 452 + j := nI_clamp (by omega)
    rw [en]
    exact rj_sub (l' := [(0, .ref (ω.2.2 395)), (1, .int (nI (j + 1)))]) [1, 0] rfl (ih (j + 1) _ (by omega) KK)
set_option maxHeartbeats 4000000 in
set_option maxRecDepth 100000 in
theorem lX12_init_242 {g : rj_G} {ω : rj_W} {F : rj_F} {u : Nat} (hn : ω.1 = 438) (hs : ω.2.1 = rj_lay) : ∀ (r j : Nat) (s : rj_M), j + r = 100 → (rj_R g RX12 cX12_init 2 none wsX12_init [] (rj_rm 8 1000) F u ω (rj_fo (fX12_fill 525 (-1)) r j s) [(0, .ref (ω.2.2 395)), (1, .int (nI 100))] 265 []) → rj_R g RX12 cX12_init 2 none wsX12_init [] (rj_rm 8 1000) F u ω s [(0, .ref (ω.2.2 395)), (1, .int (nI j))] 242 [] := by
  intro r
  induction r with
  | zero =>
    intro j s hj K
    have e0 : j = 100 := by omega
    subst e0
    refine rj_iload_n 1 dX12_init_242 rfl rfl ?_
    refine rj_bipush (v := 100) dX12_init_243 rfl (by decide) ?_
    exact rj_icmp_ge dX12_init_245 rfl rfl (fun _ => K) (fun h => absurd (Int32.le_refl _) h)
  | succ r ih =>
    intro j s hj K
    have hl : j < 100 := by omega
    refine rj_iload_n 1 dX12_init_242 rfl rfl ?_
    refine rj_bipush (v := 100) dX12_init_243 rfl (by decide) ?_
    refine rj_icmp_ge dX12_init_245 rfl rfl (fun h => absurd h (nI_ge hl (rj_bl rfl))) (fun _ => ?_)
    refine rj_aload_n 0 dX12_init_248 rfl rfl ?_
    refine rj_getR (C0 := RX12) (T := TX12) (N := 16) (j := 1) (r := 396) dX12_init_249 rfl vX12_init_12 rfl (by omega) (by rw [hs]; exact ly_395) (by decide) kX12_init_9 rfl ?_
    refine rj_sipush (v := 525) dX12_init_252 rfl (by decide) ?_
    refine rj_iload_n 1 dX12_init_255 rfl rfl ?_
    refine rj_iadd dX12_init_256 rfl ?_
    have eb : (525 : Int32) + nI j = nI (525 + j) := by rw [show (525 : Int32) = nI 525 from rfl, nI_add]
    rw [eb]
    have KK : rj_R g RX12 cX12_init 2 none wsX12_init [] (rj_rm 8 1000) F u ω (rj_fo (fX12_fill 525 (-1)) r (j + 1) (rj_pi s 396 (525 + j) (-1))) [(0, .ref (ω.2.2 395)), (1, .int (nI 100))] 265 [] := K
    refine rj_iconst (v := (-1)) dX12_init_257 rfl (by decide) ?_
    refine rj_iast dX12_init_258 rfl (by omega) (by rw [hs]; exact ly_396) (vp_in_nI (by omega) (by decide)) ?_
    refine rj_iinc (v := nI (j + 1)) (l' := [(1, .int (nI (j + 1))), (0, .ref (ω.2.2 395))]) 1 dX12_init_259 rfl rfl (nI_succ j).symm (rj_bl rfl) rfl ?_
    refine rj_goto dX12_init_262 rfl ?_
    have en : (nI (525 + j)).toNatClampNeg = 525 + j := nI_clamp (by omega)
    rw [en]
    exact rj_sub (l' := [(0, .ref (ω.2.2 395)), (1, .int (nI (j + 1)))]) [1, 0] rfl (ih (j + 1) _ (by omega) KK)
set_option maxHeartbeats 40000000 in
set_option maxRecDepth 100000 in
theorem sX12_init {g : rj_G} {ω : rj_W} (μ : rj_M) (hn : ω.1 = 396) (hs : ω.2.1 = va_up rj_lay 395 (.inr (12, [none, some (some 0), some (some 0), none, none, none, some (some 0), some (some 0), none, some (some 0), some (some 0), none, some (some 0), some (some 0), some (some 0), none]))) (hc : rj_cl ω μ) : rj_Sp g yX12_init wsX12_init (rj_rm 8 1000) [.ref (ω.2.2 395)] ω μ (rj_DI ω 438 rj_lay (mX12_init μ)) := by
  refine ri_of (cc := cX12_init) (nL := 2) (ret := none) (own := RX12) (l0 := [(0, .ref (ω.2.2 395))]) rfl (by decide +kernel) rfl rfl (Nat.le_of_ble_eq_true rfl) rfl ?_
  refine ri_aload_n 0 dX12_init_0 rfl rfl ?_
  refine ri_obj dX12_init_1 rfl wX12_init_1 wX12_init_2 wX12_init_3 (Nat.le_of_ble_eq_true rfl) (Nat.le_of_ble_eq_true rfl) (Nat.le_of_ble_eq_true rfl) ?_
  have hA0 : ∀ j, j < 396 → ω.2.2 j = ω.2.2 j := fun _ _ => rfl
  refine ri_aload_n 0 dX12_init_4 rfl rfl ?_
  refine ri_sipush (v := 625) dX12_init_5 rfl (by decide) ?_
  refine ri_newA (L := fun ad => [(0, .ref (ad 395))]) (ST := fun ad => [.ref (ad 395)]) (kd := 0) (N := 625) (K := 79) dX12_init_8 rfl wX12_init_a rfl (by decide) rfl (fun ad cA => by simp only [rj_av, rj_z, va_up_self]; rfl) (Nat.le_of_ble_eq_true rfl) (Nat.le_of_ble_eq_true rfl) (Nat.le_of_ble_eq_true rfl) (Nat.le_of_ble_eq_true rfl) (Nat.le_of_ble_eq_true rfl) hc (by rw [hn, hs, va_up_ne _ _ (by omega)]; exact ly_396) (fun ad h => by show _ = _; simp only [h 395 (by omega)]) (fun ad h => by show _ = _; simp only [h 395 (by omega)]) (fun ω1 hn1 hs1 ha1 hc1 => ?_)
  rw [hn] at hn1 hc1 ⊢
  replace hn1 : ω1.1 = 397 := by omega
  rw [hs] at hs1
  have hA1 : ∀ j, j < 396 → ω1.2.2 j = ω.2.2 j := fun j hj => (ha1 j (by omega)).trans (hA0 j hj)
  refine ri_putF (L := fun ad => [(0, .ref (ad 395))]) (ST := fun ad => []) (C0 := RX12) (T := TX12) (N := 16) (j := 1) (k := 395) (r := 396) (fs1 := [none, some (some 397), some (some 0), none, none, none, some (some 0), some (some 0), none, some (some 0), some (some 0), none, some (some 0), some (some 0), some (some 0), none]) dX12_init_10 rfl vX12_init_12 rfl (by omega) (by omega) hs1 (by decide) kX12_init_9 tyX12 tyX12_ok nmX12 rfl (fun _ h => h) rfl (Nat.le_of_ble_eq_true rfl) ⟨_, rfl⟩ (fun _ => rfl) (fun _ => rfl) hc1 rfl (fun ω2 hn2 hs2 ha2 hc2 => ?_)
  rw [hn1] at hn2
  have hA2 : ∀ j, j < 396 → ω2.2.2 j = ω.2.2 j := fun j hj => (congrFun ha2 j).trans (hA1 j hj)
  refine ri_aload_n 0 dX12_init_13 rfl rfl ?_
  refine ri_bipush (v := 8) dX12_init_14 rfl (by decide) ?_
  refine ri_sipush (v := 625) dX12_init_16 rfl (by decide) ?_
  refine ri_mna (L := fun ad => [(0, .ref (ad 395))]) (ST := fun ad => [.ref (ad 395)]) (N := 8) (M := 625) (K := 626) dX12_init_19 rfl wX12_init_m wX12_init_a (by decide) (by decide) rfl rfl (Nat.le_of_ble_eq_true rfl) (Nat.le_of_ble_eq_true rfl) (Nat.le_of_ble_eq_true rfl) (Nat.le_of_ble_eq_true rfl) (Nat.le_of_ble_eq_true rfl) (Nat.le_of_ble_eq_true rfl) hc2 (by rw [hn2, hs2, va_up_ne _ _ (by omega)]; exact ly_397) (fun i hi => by rw [hn2, hs2, va_up_ne _ _ (by omega)]; exact rj_rows397 i hi) (fun ad h => by show _ = _; simp only [h 395 (by omega)]) (fun ad h => by show _ = _; simp only [h 395 (by omega)]) (fun ω3 hn3 hs3 ha3 hc3 => ?_)
  rw [hn2] at hn3 hc3 ⊢
  replace hn3 : ω3.1 = 406 := by omega
  rw [hs2] at hs3
  have hA3 : ∀ j, j < 396 → ω3.2.2 j = ω.2.2 j := fun j hj => (ha3 j (by omega)).trans (hA2 j hj)
  refine ri_putF (L := fun ad => [(0, .ref (ad 395))]) (ST := fun ad => []) (C0 := RX12) (T := TX12) (N := 16) (j := 2) (k := 395) (r := 397) (fs1 := [none, some (some 397), some (some 398), none, none, none, some (some 0), some (some 0), none, some (some 0), some (some 0), none, some (some 0), some (some 0), some (some 0), none]) dX12_init_23 rfl vX12_init_12 rfl (by omega) (by omega) hs3 (by decide) kX12_init_15 tyX12 tyX12_ok nmX12 rfl (fun _ h => h) rfl (Nat.le_of_ble_eq_true rfl) ⟨_, rfl⟩ (fun _ => rfl) (fun _ => rfl) hc3 rfl (fun ω4 hn4 hs4 ha4 hc4 => ?_)
  rw [hn3] at hn4
  have hA4 : ∀ j, j < 396 → ω4.2.2 j = ω.2.2 j := fun j hj => (congrFun ha4 j).trans (hA3 j hj)
  refine ri_aload_n 0 dX12_init_26 rfl rfl ?_
  refine ri_bipush (v := 16) dX12_init_27 rfl (by decide) ?_
  refine ri_newA (L := fun ad => [(0, .ref (ad 395))]) (ST := fun ad => [.ref (ad 395)]) (kd := 0) (N := 16) (K := 2) dX12_init_29 rfl wX12_init_a rfl (by decide) rfl (fun ad cA => by simp only [rj_av, rj_z, va_up_self]; rfl) (Nat.le_of_ble_eq_true rfl) (Nat.le_of_ble_eq_true rfl) (Nat.le_of_ble_eq_true rfl) (Nat.le_of_ble_eq_true rfl) (Nat.le_of_ble_eq_true rfl) hc4 (by rw [hn4, hs4, va_up_ne _ _ (by omega)]; exact ly_406) (fun ad h => by show _ = _; simp only [h 395 (by omega)]) (fun ad h => by show _ = _; simp only [h 395 (by omega)]) (fun ω5 hn5 hs5 ha5 hc5 => ?_)
  rw [hn4] at hn5 hc5 ⊢
  replace hn5 : ω5.1 = 407 := by omega
  rw [hs4] at hs5
  have hA5 : ∀ j, j < 396 → ω5.2.2 j = ω.2.2 j := fun j hj => (ha5 j (by omega)).trans (hA4 j hj)
  refine ri_putF (L := fun ad => [(0, .ref (ad 395))]) (ST := fun ad => []) (C0 := RX12) (T := TX12) (N := 16) (j := 6) (k := 395) (r := 406) (fs1 := [none, some (some 397), some (some 398), none, none, none, some (some 407), some (some 0), none, some (some 0), some (some 0), none, some (some 0), some (some 0), some (some 0), none]) dX12_init_31 rfl vX12_init_12 rfl (by omega) (by omega) hs5 (by decide) kX12_init_18 tyX12 tyX12_ok nmX12 rfl (fun _ h => h) rfl (Nat.le_of_ble_eq_true rfl) ⟨_, rfl⟩ (fun _ => rfl) (fun _ => rfl) hc5 rfl (fun ω6 hn6 hs6 ha6 hc6 => ?_)
  rw [hn5] at hn6
  have hA6 : ∀ j, j < 396 → ω6.2.2 j = ω.2.2 j := fun j hj => (congrFun ha6 j).trans (hA5 j hj)
  refine ri_aload_n 0 dX12_init_34 rfl rfl ?_
  refine ri_bipush (v := 16) dX12_init_35 rfl (by decide) ?_
  refine ri_newA (L := fun ad => [(0, .ref (ad 395))]) (ST := fun ad => [.ref (ad 395)]) (kd := 0) (N := 16) (K := 2) dX12_init_37 rfl wX12_init_a rfl (by decide) rfl (fun ad cA => by simp only [rj_av, rj_z, va_up_self]; rfl) (Nat.le_of_ble_eq_true rfl) (Nat.le_of_ble_eq_true rfl) (Nat.le_of_ble_eq_true rfl) (Nat.le_of_ble_eq_true rfl) (Nat.le_of_ble_eq_true rfl) hc6 (by rw [hn6, hs6, va_up_ne _ _ (by omega)]; exact ly_407) (fun ad h => by show _ = _; simp only [h 395 (by omega)]) (fun ad h => by show _ = _; simp only [h 395 (by omega)]) (fun ω7 hn7 hs7 ha7 hc7 => ?_)
  rw [hn6] at hn7 hc7 ⊢
  replace hn7 : ω7.1 = 408 := by omega
  rw [hs6] at hs7
  have hA7 : ∀ j, j < 396 → ω7.2.2 j = ω.2.2 j := fun j hj => (ha7 j (by omega)).trans (hA6 j hj)
  refine ri_putF (L := fun ad => [(0, .ref (ad 395))]) (ST := fun ad => []) (C0 := RX12) (T := TX12) (N := 16) (j := 7) (k := 395) (r := 407) (fs1 := [none, some (some 397), some (some 398), none, none, none, some (some 407), some (some 408), none, some (some 0), some (some 0), none, some (some 0), some (some 0), some (some 0), none]) dX12_init_39 rfl vX12_init_12 rfl (by omega) (by omega) hs7 (by decide) kX12_init_21 tyX12 tyX12_ok nmX12 rfl (fun _ h => h) rfl (Nat.le_of_ble_eq_true rfl) ⟨_, rfl⟩ (fun _ => rfl) (fun _ => rfl) hc7 rfl (fun ω8 hn8 hs8 ha8 hc8 => ?_)
  rw [hn7] at hn8
  have hA8 : ∀ j, j < 396 → ω8.2.2 j = ω.2.2 j := fun j hj => (congrFun ha8 j).trans (hA7 j hj)
  refine ri_aload_n 0 dX12_init_42 rfl rfl ?_
  refine ri_bipush (v := 24) dX12_init_43 rfl (by decide) ?_
  refine ri_newA (L := fun ad => [(0, .ref (ad 395))]) (ST := fun ad => [.ref (ad 395)]) (kd := 0) (N := 24) (K := 3) dX12_init_45 rfl wX12_init_a rfl (by decide) rfl (fun ad cA => by simp only [rj_av, rj_z, va_up_self]; rfl) (Nat.le_of_ble_eq_true rfl) (Nat.le_of_ble_eq_true rfl) (Nat.le_of_ble_eq_true rfl) (Nat.le_of_ble_eq_true rfl) (Nat.le_of_ble_eq_true rfl) hc8 (by rw [hn8, hs8, va_up_ne _ _ (by omega)]; exact ly_408) (fun ad h => by show _ = _; simp only [h 395 (by omega)]) (fun ad h => by show _ = _; simp only [h 395 (by omega)]) (fun ω9 hn9 hs9 ha9 hc9 => ?_)
  rw [hn8] at hn9 hc9 ⊢
  replace hn9 : ω9.1 = 409 := by omega
  rw [hs8] at hs9
  have hA9 : ∀ j, j < 396 → ω9.2.2 j = ω.2.2 j := fun j hj => (ha9 j (by omega)).trans (hA8 j hj)
  refine ri_putF (L := fun ad => [(0, .ref (ad 395))]) (ST := fun ad => []) (C0 := RX12) (T := TX12) (N := 16) (j := 9) (k := 395) (r := 408) (fs1 := [none, some (some 397), some (some 398), none, none, none, some (some 407), some (some 408), none, some (some 409), some (some 0), none, some (some 0), some (some 0), some (some 0), none]) dX12_init_47 rfl vX12_init_12 rfl (by omega) (by omega) hs9 (by decide) kX12_init_24 tyX12 tyX12_ok nmX12 rfl (fun _ h => h) rfl (Nat.le_of_ble_eq_true rfl) ⟨_, rfl⟩ (fun _ => rfl) (fun _ => rfl) hc9 rfl (fun ω10 hn10 hs10 ha10 hc10 => ?_)
  rw [hn9] at hn10
  have hA10 : ∀ j, j < 396 → ω10.2.2 j = ω.2.2 j := fun j hj => (congrFun ha10 j).trans (hA9 j hj)
  refine ri_aload_n 0 dX12_init_50 rfl rfl ?_
  refine ri_bipush (v := 25) dX12_init_51 rfl (by decide) ?_
  refine ri_bipush (v := 16) dX12_init_53 rfl (by decide) ?_
  refine ri_mna (L := fun ad => [(0, .ref (ad 395))]) (ST := fun ad => [.ref (ad 395)]) (N := 25) (M := 16) (K := 54) dX12_init_55 rfl wX12_init_m wX12_init_a (by decide) (by decide) rfl rfl (Nat.le_of_ble_eq_true rfl) (Nat.le_of_ble_eq_true rfl) (Nat.le_of_ble_eq_true rfl) (Nat.le_of_ble_eq_true rfl) (Nat.le_of_ble_eq_true rfl) (Nat.le_of_ble_eq_true rfl) hc10 (by rw [hn10, hs10, va_up_ne _ _ (by omega)]; exact ly_409) (fun i hi => by rw [hn10, hs10, va_up_ne _ _ (by omega)]; exact rj_rows409 i hi) (fun ad h => by show _ = _; simp only [h 395 (by omega)]) (fun ad h => by show _ = _; simp only [h 395 (by omega)]) (fun ω11 hn11 hs11 ha11 hc11 => ?_)
  rw [hn10] at hn11 hc11 ⊢
  replace hn11 : ω11.1 = 435 := by omega
  rw [hs10] at hs11
  have hA11 : ∀ j, j < 396 → ω11.2.2 j = ω.2.2 j := fun j hj => (ha11 j (by omega)).trans (hA10 j hj)
  refine ri_putF (L := fun ad => [(0, .ref (ad 395))]) (ST := fun ad => []) (C0 := RX12) (T := TX12) (N := 16) (j := 10) (k := 395) (r := 409) (fs1 := [none, some (some 397), some (some 398), none, none, none, some (some 407), some (some 408), none, some (some 409), some (some 410), none, some (some 0), some (some 0), some (some 0), none]) dX12_init_59 rfl vX12_init_12 rfl (by omega) (by omega) hs11 (by decide) kX12_init_27 tyX12 tyX12_ok nmX12 rfl (fun _ h => h) rfl (Nat.le_of_ble_eq_true rfl) ⟨_, rfl⟩ (fun _ => rfl) (fun _ => rfl) hc11 rfl (fun ω12 hn12 hs12 ha12 hc12 => ?_)
  rw [hn11] at hn12
  have hA12 : ∀ j, j < 396 → ω12.2.2 j = ω.2.2 j := fun j hj => (congrFun ha12 j).trans (hA11 j hj)
  refine ri_aload_n 0 dX12_init_62 rfl rfl ?_
  refine ri_bipush (v := 16) dX12_init_63 rfl (by decide) ?_
  refine ri_newA (L := fun ad => [(0, .ref (ad 395))]) (ST := fun ad => [.ref (ad 395)]) (kd := 0) (N := 16) (K := 2) dX12_init_65 rfl wX12_init_a rfl (by decide) rfl (fun ad cA => by simp only [rj_av, rj_z, va_up_self]; rfl) (Nat.le_of_ble_eq_true rfl) (Nat.le_of_ble_eq_true rfl) (Nat.le_of_ble_eq_true rfl) (Nat.le_of_ble_eq_true rfl) (Nat.le_of_ble_eq_true rfl) hc12 (by rw [hn12, hs12, va_up_ne _ _ (by omega)]; exact ly_435) (fun ad h => by show _ = _; simp only [h 395 (by omega)]) (fun ad h => by show _ = _; simp only [h 395 (by omega)]) (fun ω13 hn13 hs13 ha13 hc13 => ?_)
  rw [hn12] at hn13 hc13 ⊢
  replace hn13 : ω13.1 = 436 := by omega
  rw [hs12] at hs13
  have hA13 : ∀ j, j < 396 → ω13.2.2 j = ω.2.2 j := fun j hj => (ha13 j (by omega)).trans (hA12 j hj)
  refine ri_putF (L := fun ad => [(0, .ref (ad 395))]) (ST := fun ad => []) (C0 := RX12) (T := TX12) (N := 16) (j := 12) (k := 395) (r := 435) (fs1 := [none, some (some 397), some (some 398), none, none, none, some (some 407), some (some 408), none, some (some 409), some (some 410), none, some (some 436), some (some 0), some (some 0), none]) dX12_init_67 rfl vX12_init_12 rfl (by omega) (by omega) hs13 (by decide) kX12_init_30 tyX12 tyX12_ok nmX12 rfl (fun _ h => h) rfl (Nat.le_of_ble_eq_true rfl) ⟨_, rfl⟩ (fun _ => rfl) (fun _ => rfl) hc13 rfl (fun ω14 hn14 hs14 ha14 hc14 => ?_)
  rw [hn13] at hn14
  have hA14 : ∀ j, j < 396 → ω14.2.2 j = ω.2.2 j := fun j hj => (congrFun ha14 j).trans (hA13 j hj)
  refine ri_aload_n 0 dX12_init_70 rfl rfl ?_
  refine ri_bipush (v := 16) dX12_init_71 rfl (by decide) ?_
  refine ri_newA (L := fun ad => [(0, .ref (ad 395))]) (ST := fun ad => [.ref (ad 395)]) (kd := 0) (N := 16) (K := 2) dX12_init_73 rfl wX12_init_a rfl (by decide) rfl (fun ad cA => by simp only [rj_av, rj_z, va_up_self]; rfl) (Nat.le_of_ble_eq_true rfl) (Nat.le_of_ble_eq_true rfl) (Nat.le_of_ble_eq_true rfl) (Nat.le_of_ble_eq_true rfl) (Nat.le_of_ble_eq_true rfl) hc14 (by rw [hn14, hs14, va_up_ne _ _ (by omega)]; exact ly_436) (fun ad h => by show _ = _; simp only [h 395 (by omega)]) (fun ad h => by show _ = _; simp only [h 395 (by omega)]) (fun ω15 hn15 hs15 ha15 hc15 => ?_)
  rw [hn14] at hn15 hc15 ⊢
  replace hn15 : ω15.1 = 437 := by omega
  rw [hs14] at hs15
  have hA15 : ∀ j, j < 396 → ω15.2.2 j = ω.2.2 j := fun j hj => (ha15 j (by omega)).trans (hA14 j hj)
  refine ri_putF (L := fun ad => [(0, .ref (ad 395))]) (ST := fun ad => []) (C0 := RX12) (T := TX12) (N := 16) (j := 13) (k := 395) (r := 436) (fs1 := [none, some (some 397), some (some 398), none, none, none, some (some 407), some (some 408), none, some (some 409), some (some 410), none, some (some 436), some (some 437), some (some 0), none]) dX12_init_75 rfl vX12_init_12 rfl (by omega) (by omega) hs15 (by decide) kX12_init_33 tyX12 tyX12_ok nmX12 rfl (fun _ h => h) rfl (Nat.le_of_ble_eq_true rfl) ⟨_, rfl⟩ (fun _ => rfl) (fun _ => rfl) hc15 rfl (fun ω16 hn16 hs16 ha16 hc16 => ?_)
  rw [hn15] at hn16
  have hA16 : ∀ j, j < 396 → ω16.2.2 j = ω.2.2 j := fun j hj => (congrFun ha16 j).trans (hA15 j hj)
  refine ri_aload_n 0 dX12_init_78 rfl rfl ?_
  refine ri_bipush (v := 16) dX12_init_79 rfl (by decide) ?_
  refine ri_newA (L := fun ad => [(0, .ref (ad 395))]) (ST := fun ad => [.ref (ad 395)]) (kd := 0) (N := 16) (K := 2) dX12_init_81 rfl wX12_init_a rfl (by decide) rfl (fun ad cA => by simp only [rj_av, rj_z, va_up_self]; rfl) (Nat.le_of_ble_eq_true rfl) (Nat.le_of_ble_eq_true rfl) (Nat.le_of_ble_eq_true rfl) (Nat.le_of_ble_eq_true rfl) (Nat.le_of_ble_eq_true rfl) hc16 (by rw [hn16, hs16, va_up_ne _ _ (by omega)]; exact ly_437) (fun ad h => by show _ = _; simp only [h 395 (by omega)]) (fun ad h => by show _ = _; simp only [h 395 (by omega)]) (fun ω17 hn17 hs17 ha17 hc17 => ?_)
  rw [hn16] at hn17 hc17 ⊢
  replace hn17 : ω17.1 = 438 := by omega
  rw [hs16] at hs17
  have hA17 : ∀ j, j < 396 → ω17.2.2 j = ω.2.2 j := fun j hj => (ha17 j (by omega)).trans (hA16 j hj)
  refine ri_putF (L := fun ad => [(0, .ref (ad 395))]) (ST := fun ad => []) (C0 := RX12) (T := TX12) (N := 16) (j := 14) (k := 395) (r := 437) (fs1 := [none, some (some 397), some (some 398), none, none, none, some (some 407), some (some 408), none, some (some 409), some (some 410), none, some (some 436), some (some 437), some (some 438), none]) dX12_init_83 rfl vX12_init_12 rfl (by omega) (by omega) hs17 (by decide) kX12_init_36 tyX12 tyX12_ok nmX12 rfl (fun _ h => h) rfl (Nat.le_of_ble_eq_true rfl) ⟨_, rfl⟩ (fun _ => rfl) (fun _ => rfl) hc17 rfl (fun ω18 hn18 hs18 ha18 hc18 => ?_)
  rw [hn17] at hn18
  have hA18 : ∀ j, j < 396 → ω18.2.2 j = ω.2.2 j := fun j hj => (congrFun ha18 j).trans (hA17 j hj)
  have hsF : ω18.2.1 = rj_lay := hs18.trans (va_up_id ly_395)
  refine rj_RI.of ?_
  have hmem : (rj_z (rj_z (rj_z (rj_mna (rj_z (rj_z (rj_z (rj_mna (rj_z μ 396) 397 8) 406) 407) 408) 409 25) 435) 436) 437) = mX12_a μ := rfl
  rw [hmem] at hc18 ⊢
  have h395 : ω18.2.1 395 = .inr (12, [none, some (some 397), some (some 398), none, none, none, some (some 407), some (some 408), none, some (some 409), some (some 410), none, some (some 436), some (some 437), some (some 438), none]) := by rw [hsF]; exact ly_395
  have h396 : ω18.2.1 396 = .inl (0, 625) := by rw [hsF]; exact ly_396
  refine rj_aload_n 0 dX12_init_86 rfl rfl ?_
  refine rj_getR (C0 := RX12) (T := TX12) (N := 16) (j := 1) (r := 396) dX12_init_87 rfl vX12_init_12 rfl (by omega) h395 (by decide) kX12_init_9 rfl ?_
  refine rj_iconst (v := 0) dX12_init_90 rfl (by decide) ?_
  refine rj_sipush (v := 2026) dX12_init_91 rfl (by decide) ?_
  refine rj_iast dX12_init_94 rfl (by omega) h396 (vp_in_nI (n := 0) (N := 625) (rj_bl rfl) (rj_bl rfl)) ?_
  refine rj_aload_n 0 dX12_init_95 rfl rfl ?_
  refine rj_getR (C0 := RX12) (T := TX12) (N := 16) (j := 1) (r := 396) dX12_init_96 rfl vX12_init_12 rfl (by omega) h395 (by decide) kX12_init_9 rfl ?_
  refine rj_iconst (v := 1) dX12_init_99 rfl (by decide) ?_
  refine rj_bipush (v := 6) dX12_init_100 rfl (by decide) ?_
  refine rj_iast dX12_init_102 rfl (by omega) h396 (vp_in_nI (n := 1) (N := 625) (rj_bl rfl) (rj_bl rfl)) ?_
  refine rj_aload_n 0 dX12_init_103 rfl rfl ?_
  refine rj_getR (C0 := RX12) (T := TX12) (N := 16) (j := 1) (r := 396) dX12_init_104 rfl vX12_init_12 rfl (by omega) h395 (by decide) kX12_init_9 rfl ?_
  refine rj_iconst (v := 2) dX12_init_107 rfl (by decide) ?_
  refine rj_iconst (v := 1) dX12_init_108 rfl (by decide) ?_
  refine rj_iast dX12_init_109 rfl (by omega) h396 (vp_in_nI (n := 2) (N := 625) (rj_bl rfl) (rj_bl rfl)) ?_
  refine rj_iconst (v := 0) dX12_init_110 rfl (by decide) ?_
  refine rj_istore_n (l' := [(1, .int 0), (0, .ref (ω18.2.2 395))]) dX12_init_111 rfl (rj_bl rfl) rfl ?_
  refine rj_sub (l' := [(0, .ref (ω18.2.2 395)), (1, .int (nI 0))]) [1, 0] rfl ?_
  refine lX12_init_112 hn18 hsF 16 0 _ rfl ?_
  refine rj_iconst (v := 0) dX12_init_145 rfl (by decide) ?_
  refine rj_istore_n (l' := [(1, .int 0), (0, .ref (ω18.2.2 395))]) dX12_init_146 rfl (rj_bl rfl) rfl ?_
  refine rj_sub (l' := [(0, .ref (ω18.2.2 395)), (1, .int (nI 0))]) [1, 0] rfl ?_
  refine lX12_init_147 hn18 hsF 12 0 _ rfl ?_
  refine rj_aload_n 0 dX12_init_171 rfl rfl ?_
  refine rj_getR (C0 := RX12) (T := TX12) (N := 16) (j := 1) (r := 396) dX12_init_172 rfl vX12_init_12 rfl (by omega) h395 (by decide) kX12_init_9 rfl ?_
  refine rj_sipush (v := 330) dX12_init_175 rfl (by decide) ?_
  refine rj_iconst (v := 3) dX12_init_178 rfl (by decide) ?_
  refine rj_iast dX12_init_179 rfl (by omega) h396 (vp_in_nI (n := 330) (N := 625) (rj_bl rfl) (rj_bl rfl)) ?_
  refine rj_aload_n 0 dX12_init_180 rfl rfl ?_
  refine rj_getR (C0 := RX12) (T := TX12) (N := 16) (j := 1) (r := 396) dX12_init_181 rfl vX12_init_12 rfl (by omega) h395 (by decide) kX12_init_9 rfl ?_
  refine rj_sipush (v := 411) dX12_init_184 rfl (by decide) ?_
  refine rj_bipush (v := 8) dX12_init_187 rfl (by decide) ?_
  refine rj_iast dX12_init_189 rfl (by omega) h396 (vp_in_nI (n := 411) (N := 625) (rj_bl rfl) (rj_bl rfl)) ?_
  refine rj_iconst (v := 0) dX12_init_190 rfl (by decide) ?_
  refine rj_istore_n (l' := [(1, .int 0), (0, .ref (ω18.2.2 395))]) dX12_init_191 rfl (rj_bl rfl) rfl ?_
  refine rj_sub (l' := [(0, .ref (ω18.2.2 395)), (1, .int (nI 0))]) [1, 0] rfl ?_
  refine lX12_init_192 hn18 hsF 4 0 _ rfl ?_
  refine rj_iconst (v := 0) dX12_init_215 rfl (by decide) ?_
  refine rj_istore_n (l' := [(1, .int 0), (0, .ref (ω18.2.2 395))]) dX12_init_216 rfl (rj_bl rfl) rfl ?_
  refine rj_sub (l' := [(0, .ref (ω18.2.2 395)), (1, .int (nI 0))]) [1, 0] rfl ?_
  refine lX12_init_217 hn18 hsF 48 0 _ rfl ?_
  refine rj_iconst (v := 0) dX12_init_240 rfl (by decide) ?_
  refine rj_istore_n (l' := [(1, .int 0), (0, .ref (ω18.2.2 395))]) dX12_init_241 rfl (rj_bl rfl) rfl ?_
  refine rj_sub (l' := [(0, .ref (ω18.2.2 395)), (1, .int (nI 0))]) [1, 0] rfl ?_
  refine lX12_init_242 hn18 hsF 100 0 _ rfl ?_
  have k3 : ∀ (f : Nat → rj_M → rj_M), (∀ j s, (f j s).2 = s.2) → ∀ (r j : Nat) (s : rj_M), (rj_fo f r j s).2.2.2 = s.2.2.2 := fun f h r j s => by rw [rj_fo2 h]
  have eI : (mX12_init μ).2.2.2 = (mX12_a μ).2.2.2 := by
    unfold mX12_init
    obtain ⟨s0, es0⟩ : ∃ s : rj_M, s = mX12_b (mX12_a μ) := ⟨_, rfl⟩
    rw [← es0]
    obtain ⟨s1, es1⟩ : ∃ s : rj_M, s = rj_fo fX12_ways 16 0 s0 := ⟨_, rfl⟩
    rw [← es1]
    obtain ⟨s2, es2⟩ : ∃ s : rj_M, s = rj_fo (fX12_fill 314 10) 12 0 s1 := ⟨_, rfl⟩
    rw [← es2]
    obtain ⟨s3, es3⟩ : ∃ s : rj_M, s = rj_pi (rj_pi s2 396 330 3) 396 411 8 := ⟨_, rfl⟩
    rw [← es3]
    obtain ⟨s4, es4⟩ : ∃ s : rj_M, s = rj_fo (fX12_fill 448 20) 4 0 s3 := ⟨_, rfl⟩
    rw [← es4]
    obtain ⟨s5, es5⟩ : ∃ s : rj_M, s = rj_fo (fX12_fill 452 (-1)) 48 0 s4 := ⟨_, rfl⟩
    rw [← es5]
    obtain ⟨s6, es6⟩ : ∃ s : rj_M, s = rj_fo (fX12_fill 525 (-1)) 100 0 s5 := ⟨_, rfl⟩
    rw [← es6]
    rw [es6, k3 (fX12_fill 525 (-1)) (fun _ _ => rfl) 100 0 s5, es5, k3 (fX12_fill 452 (-1)) (fun _ _ => rfl) 48 0 s4, es4, k3 (fX12_fill 448 20) (fun _ _ => rfl) 4 0 s3, es3]
    show s2.2.2.2 = _
    rw [es2, k3 (fX12_fill 314 10) (fun _ _ => rfl) 12 0 s1, es1, k3 fX12_ways (fun _ _ => rfl) 16 0 s0, es0]
    rfl
  have hfin : rj_cl ω18 (mX12_init μ) := hc18.same eI
  exact rj_vret dX12_init_265 rfl (Nat.le_of_ble_eq_true rfl) (Nat.le_of_ble_eq_true rfl) ⟨rfl, fun j hj => hA18 j (by omega), hn18, hsF, rfl, hfin⟩
