/-! A CASE'S END: thrown, and the value -/
theorem lg_self {x : Int64} : lg_cmp x x = 0 := by
  unfold lg_cmp
  rw [if_neg Int64.lt_irrefl, if_pos rfl]
section rlTails
variable {g : rj_G} {hh : List (Nat × Nat × Nat × Nat)} {b L : Nat} {xs : Nat → Int32} {u i : Nat} {ω : rj_W} {μ : rj_M} {kk : Int32}
theorem rl_tail {l7 : Nat × Value} {b1 b2 b3 b4 c0 c1 c2 t2 : Nat} {o1 o2 : Int} (hω : rj_ok ω) (hu : u ≤ 600000) (ht : μ.1 395 0 = kk) (d1 : decode cL_law b1 = .ok (.aload_n 2, 1)) (e1 : b1 + 1 = b2) (d2 : decode cL_law b2 = .ok (.invokevirtual 170, 3)) (e2 : b2 + 3 = b3) (d3 : decode cL_law b3 = .ok (.iload 6, 2)) (e3 : b3 + 2 = b4) (d4 : decode cL_law b4 = .ok (.if_icmp .eq o1, 3)) (e4 : (b4 : Int) + o1 = (c0 : Int)) (d5 : decode cL_law c0 = .ok (.iload 6, 2)) (e5 : c0 + 2 = c1) (d6 : decode cL_law c1 = .ok (.ifCond .ne o2, 3)) (e6 : (c1 : Int) + o2 = (t2 : Int)) (e6' : c1 + 3 = c2)
    (K2 : kk = 0 → rl_R g hh b L xs u ω μ (l7 :: (6, .int kk) :: ll b ω.2.2 i) c2 []) (K : rl_R g hh b L xs u ω μ (l7 :: (6, .int kk) :: ll b ω.2.2 i) t2 []) : rl_R g hh b L xs u ω μ (l7 :: (6, .int kk) :: ll b ω.2.2 i) b1 [] := by
  refine rj_aload_n 4 d1 e1 rfl ?_
  refine rl_callV (av := []) (rest := []) (sX12_thrown (g := g) (ω := ω) hω μ) lw_k_X12_thrown (rj_lt hω (k := 395) rfl) (rj_sh hω ly_395) rfl rfl hVX12_thrown ⟨Nat.le_of_ble_eq_true rfl, Nat.le_of_ble_eq_true rfl⟩ rfl rfl (Nat.le_of_ble_eq_true rfl) d2 e2 (by omega) ?_
  refine rj_iload 1 d3 e3 rfl ?_
  refine rj_icmp_eq d4 e4 rfl (fun _ => ?_) (fun h => absurd ht h)
  refine rj_iload 1 d5 e5 rfl ?_
  exact rj_if_ne d6 e6 e6' (fun _ => K) (fun h => K2 h)
theorem rl_tailI {bv : Int32} {b0 b1 b2 b3 b4 c0 c1 c2 c3 c4 c5 c6 c7 c8 t2 : Nat} {o1 o2 o3 o4 : Int} (hω : rj_ok ω) (hu : u ≤ 600000) (ht : μ.1 395 0 = kk) (ho : kk = 0 → μ.2.1 438 0 = bv.toInt64) (d0 : decode cL_law b0 = .ok (.istore 7, 2)) (e0 : b0 + 2 = b1) (d1 : decode cL_law b1 = .ok (.aload_n 2, 1)) (e1 : b1 + 1 = b2) (d2 : decode cL_law b2 = .ok (.invokevirtual 170, 3)) (e2 : b2 + 3 = b3) (d3 : decode cL_law b3 = .ok (.iload 6, 2)) (e3 : b3 + 2 = b4) (d4 : decode cL_law b4 = .ok (.if_icmp .eq o1, 3)) (e4 : (b4 : Int) + o1 = (c0 : Int)) (d5 : decode cL_law c0 = .ok (.iload 6, 2)) (e5 : c0 + 2 = c1) (d6 : decode cL_law c1 = .ok (.ifCond .ne o2, 3)) (e6 : (c1 : Int) + o2 = (t2 : Int)) (e6' : c1 + 3 = c2)
    (d7 : decode cL_law c2 = .ok (.aload_n 3, 1)) (e7 : c2 + 1 = c3) (d8 : decode cL_law c3 = .ok (.iconst 0, 1)) (e8 : c3 + 1 = c4) (d9 : decode cL_law c4 = .ok (.laload, 1)) (e9 : c4 + 1 = c5) (d10 : decode cL_law c5 = .ok (.iload 7, 2)) (e10 : c5 + 2 = c6) (d11 : decode cL_law c6 = .ok (.i2l, 1)) (e11 : c6 + 1 = c7) (d12 : decode cL_law c7 = .ok (.lcmp, 1)) (e12 : c7 + 1 = c8) (d13 : decode cL_law c8 = .ok (.ifCond .eq o3, 3)) (e13 : (c8 : Int) + o3 = (t2 : Int)) (d14 : decode cL_law t2 = .ok (.goto o4, 3)) (e14 : (t2 : Int) + o4 = ((3595 : Nat) : Int))
    (K : rl_R g hh b L xs u ω μ (ll b ω.2.2 i) 3595 []) : rl_R g hh b L xs u ω μ ((6, .int kk) :: ll b ω.2.2 i) b0 [.int bv] := by
  refine rj_istore (l' := (7, .int bv) :: (6, .int kk) :: ll b ω.2.2 i) d0 e0 (rj_bl rfl) rfl ?_
  have KT : rl_R g hh b L xs u ω μ ((7, .int bv) :: (6, .int kk) :: ll b ω.2.2 i) t2 [] := rj_goto d14 e14 (rj_sub (l' := ll b ω.2.2 i) [2, 3, 4, 5, 6, 7] rfl K)
  refine rl_tail hω hu ht d1 e1 d2 e2 d3 e3 d4 e4 d5 e5 d6 e6 e6' (fun h => ?_) KT
  refine rj_aload_n 5 d7 e7 rfl ?_
  refine rj_iconst (v := 0) d8 e8 rfl ?_
  refine rj_lald (k := 438) (n := 1) d9 e9 (rj_lt hω (k := 438) rfl) (rj_sh hω ly_438) (vp_in_nI (n := 0) (rj_bl rfl) (rj_bl rfl)) ?_
  refine rj_iload 0 d10 e10 rfl ?_
  refine rj_i2l d11 e11 ?_
  refine rj_lcmp d12 e12 ?_
  have e : μ.2.1 438 (0 : Int32).toNatClampNeg = bv.toInt64 := ho h
  rw [e, lg_self]
  exact rj_if_eq d13 e13 rfl (fun _ => KT) (fun h' => absurd rfl h')
theorem rl_tailZ {bv : Int32} {b0 b1 b2 b3 b4 c0 c1 c2 c3 c4 c5 c6 c7 c8 c9 cA cB t2 : Nat} {o1 o2 o3 o4 o5 o6 : Int} (hω : rj_ok ω) (hu : u ≤ 600000) (ht : μ.1 395 0 = kk) (ho : kk = 0 → μ.2.1 438 0 = if bv = 0 then 0 else 1) (d0 : decode cL_law b0 = .ok (.istore 7, 2)) (e0 : b0 + 2 = b1) (d1 : decode cL_law b1 = .ok (.aload_n 2, 1)) (e1 : b1 + 1 = b2) (d2 : decode cL_law b2 = .ok (.invokevirtual 170, 3)) (e2 : b2 + 3 = b3) (d3 : decode cL_law b3 = .ok (.iload 6, 2)) (e3 : b3 + 2 = b4) (d4 : decode cL_law b4 = .ok (.if_icmp .eq o1, 3)) (e4 : (b4 : Int) + o1 = (c0 : Int)) (d5 : decode cL_law c0 = .ok (.iload 6, 2)) (e5 : c0 + 2 = c1) (d6 : decode cL_law c1 = .ok (.ifCond .ne o2, 3)) (e6 : (c1 : Int) + o2 = (t2 : Int)) (e6' : c1 + 3 = c2)
    (d7 : decode cL_law c2 = .ok (.aload_n 3, 1)) (e7 : c2 + 1 = c3) (d8 : decode cL_law c3 = .ok (.iconst 0, 1)) (e8 : c3 + 1 = c4) (d9 : decode cL_law c4 = .ok (.laload, 1)) (e9 : c4 + 1 = c5) (d10 : decode cL_law c5 = .ok (.iload 7, 2)) (e10 : c5 + 2 = c6) (dA : decode cL_law c6 = .ok (.ifCond .eq o5, 3)) (eA : (c6 : Int) + o5 = (cB : Int)) (eA' : c6 + 3 = c7) (dB : decode cL_law c7 = .ok (.lconst 1, 1)) (eB : c7 + 1 = c8) (dC : decode cL_law c8 = .ok (.goto o6, 3)) (eC : (c8 : Int) + o6 = (c9 : Int)) (dD : decode cL_law cB = .ok (.lconst 0, 1)) (eD : cB + 1 = c9) (d12 : decode cL_law c9 = .ok (.lcmp, 1)) (e12 : c9 + 1 = cA) (d13 : decode cL_law cA = .ok (.ifCond .eq o3, 3)) (e13 : (cA : Int) + o3 = (t2 : Int)) (d14 : decode cL_law t2 = .ok (.goto o4, 3)) (e14 : (t2 : Int) + o4 = ((3595 : Nat) : Int))
    (K : rl_R g hh b L xs u ω μ (ll b ω.2.2 i) 3595 []) : rl_R g hh b L xs u ω μ ((6, .int kk) :: ll b ω.2.2 i) b0 [.int bv] := by
  refine rj_istore (l' := (7, .int bv) :: (6, .int kk) :: ll b ω.2.2 i) d0 e0 (rj_bl rfl) rfl ?_
  have KT : rl_R g hh b L xs u ω μ ((7, .int bv) :: (6, .int kk) :: ll b ω.2.2 i) t2 [] := rj_goto d14 e14 (rj_sub (l' := ll b ω.2.2 i) [2, 3, 4, 5, 6, 7] rfl K)
  refine rl_tail hω hu ht d1 e1 d2 e2 d3 e3 d4 e4 d5 e5 d6 e6 e6' (fun h => ?_) KT
  refine rj_aload_n 5 d7 e7 rfl ?_
  refine rj_iconst (v := 0) d8 e8 rfl ?_
  refine rj_lald (k := 438) (n := 1) d9 e9 (rj_lt hω (k := 438) rfl) (rj_sh hω ly_438) (vp_in_nI (n := 0) (rj_bl rfl) (rj_bl rfl)) ?_
  refine rj_iload 0 d10 e10 rfl ?_
  have e : μ.2.1 438 (0 : Int32).toNatClampNeg = if bv = 0 then 0 else 1 := ho h
  refine rj_if_eq dA eA eA' (fun hb => ?_) (fun hb => ?_)
  · refine rj_lconst (v := 0) dD eD rfl ?_
    refine rj_lcmp d12 e12 ?_
    rw [if_pos hb] at e
    rw [e, lg_self]
    exact rj_if_eq d13 e13 rfl (fun _ => KT) (fun h' => absurd rfl h')
  · refine rj_lconst (v := 1) dB eB rfl ?_
    refine rj_goto dC eC ?_
    refine rj_lcmp d12 e12 ?_
    rw [if_neg hb] at e
    rw [e, lg_self]
    exact rj_if_eq d13 e13 rfl (fun _ => KT) (fun h' => absurd rfl h')
end rlTails
