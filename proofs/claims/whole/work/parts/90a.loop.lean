/-! THE LAW'S LOOP -/
theorem rl_and63 (x : Int32) : ∃ v, v < 64 ∧ x &&& 63 = nI v := by
  refine ⟨(x &&& 63).toBitVec.toNat, ?_, ?_⟩
  · have e : (x &&& 63).toBitVec = x.toBitVec &&& 63#32 := rfl
    rw [e, BitVec.toNat_and]
    exact Nat.lt_of_le_of_lt Nat.and_le_right (by decide)
  · apply Int32.toBitVec_inj.mp
    show (x &&& 63).toBitVec = BitVec.ofNat 32 (x &&& 63).toBitVec.toNat
    rw [BitVec.ofNat_toNat, BitVec.setWidth_eq]
theorem rl_neg6 {L n : Nat} (hL : L < 6) (hn : n < 2 ^ 31) : nI L - 6 < nI n := by
  have h0 : (0 : Int32) ≤ nI n := Int32.not_lt.mp (nI_pos hn)
  have h1 : nI L - 6 < 0 := by
    have h6 : L = 0 ∨ L = 1 ∨ L = 2 ∨ L = 3 ∨ L = 4 ∨ L = 5 := by omega
    rcases h6 with rfl | rfl | rfl | rfl | rfl | rfl <;> decide
  exact Int32.lt_of_lt_of_le h1 h0
set_option maxHeartbeats 4000000 in
set_option maxRecDepth 100000 in
theorem rl_disp {g : rj_G} {hh : List (Nat × Nat × Nat × Nat)} {b L n u i : Nat} {xs : Nat → Int32} {ω : rj_W} {μ : rj_M} (hω : rj_ok ω) (hL : L ≤ 3072) (hi : i + 6 ≤ L) (hn : n ≤ 600) (hu : u ≤ 500000) (I : zi_I n μ μ) (K : rl_K g hh b L xs n u ω i) {v : Nat} (hv : v < 64) : rl_R g hh b L xs u ω μ (ll b ω.2.2 i) 45 [.int (nI v)] := by
  have KD : rl_R g hh b L xs u ω μ (ll b ω.2.2 i) 3595 [] := K u ω μ (by omega) hω (fun _ _ => rfl) (zi_more I)
  have key : ∀ v ∈ List.range 64, rl_R g hh b L xs u ω μ (ll b ω.2.2 i) 45 [.int (nI v)] := by
    show ∀ v ∈ [0, 1, 2, 3, 4, 5, 6, 7, 8, 9, 10, 11, 12, 13, 14, 15, 16, 17, 18, 19, 20, 21, 22, 23, 24, 25, 26, 27, 28, 29, 30, 31, 32, 33, 34, 35, 36, 37, 38, 39, 40, 41, 42, 43, 44, 45, 46, 47, 48, 49, 50, 51, 52, 53, 54, 55, 56, 57, 58, 59, 60, 61, 62, 63], rl_R g hh b L xs u ω μ (ll b ω.2.2 i) 45 [.int (nI v)]
    refine List.forall_mem_cons.mpr ⟨rj_tableIn (off := 247) (t := 292) dL_law_45 (by decide) (by decide) rfl rfl (lc_0 hω hL hi hn hu I K), ?_⟩
    refine List.forall_mem_cons.mpr ⟨rj_tableIn (off := 327) (t := 372) dL_law_45 (by decide) (by decide) rfl rfl (lc_1 hω hL hi hn hu I K), ?_⟩
    refine List.forall_mem_cons.mpr ⟨rj_tableIn (off := 418) (t := 463) dL_law_45 (by decide) (by decide) rfl rfl (lc_2 hω hL hi hn hu I K), ?_⟩
    refine List.forall_mem_cons.mpr ⟨rj_tableIn (off := 498) (t := 543) dL_law_45 (by decide) (by decide) rfl rfl (lc_3 hω hL hi hn hu I K), ?_⟩
    refine List.forall_mem_cons.mpr ⟨rj_tableIn (off := 602) (t := 647) dL_law_45 (by decide) (by decide) rfl rfl (lc_4 hω hL hi hn hu I K), ?_⟩
    refine List.forall_mem_cons.mpr ⟨rj_tableIn (off := 658) (t := 703) dL_law_45 (by decide) (by decide) rfl rfl (lc_5 hω hL hi hn hu I K), ?_⟩
    refine List.forall_mem_cons.mpr ⟨rj_tableIn (off := 738) (t := 783) dL_law_45 (by decide) (by decide) rfl rfl (lc_6 hω hL hi hn hu I K), ?_⟩
    refine List.forall_mem_cons.mpr ⟨rj_tableIn (off := 806) (t := 851) dL_law_45 (by decide) (by decide) rfl rfl (lc_7 hω hL hi hn hu I K), ?_⟩
    refine List.forall_mem_cons.mpr ⟨rj_tableIn (off := 886) (t := 931) dL_law_45 (by decide) (by decide) rfl rfl (lc_8 hω hL hi hn hu I K), ?_⟩
    refine List.forall_mem_cons.mpr ⟨rj_tableIn (off := 954) (t := 999) dL_law_45 (by decide) (by decide) rfl rfl (lc_9 hω hL hi hn hu I K), ?_⟩
    refine List.forall_mem_cons.mpr ⟨rj_tableIn (off := 1010) (t := 1055) dL_law_45 (by decide) (by decide) rfl rfl (lc_10 hω hL hi hn hu I K), ?_⟩
    refine List.forall_mem_cons.mpr ⟨rj_tableIn (off := 1078) (t := 1123) dL_law_45 (by decide) (by decide) rfl rfl (lc_11 hω hL hi hn hu I K), ?_⟩
    refine List.forall_mem_cons.mpr ⟨rj_tableIn (off := 1134) (t := 1179) dL_law_45 (by decide) (by decide) rfl rfl (lc_12 hω hL hi hn hu I K), ?_⟩
    refine List.forall_mem_cons.mpr ⟨rj_tableIn (off := 1190) (t := 1235) dL_law_45 (by decide) (by decide) rfl rfl (lc_13 hω hL hi hn hu I K), ?_⟩
    refine List.forall_mem_cons.mpr ⟨rj_tableIn (off := 1258) (t := 1303) dL_law_45 (by decide) (by decide) rfl rfl (lc_14 hω hL hi hn hu I K), ?_⟩
    refine List.forall_mem_cons.mpr ⟨rj_tableIn (off := 1314) (t := 1359) dL_law_45 (by decide) (by decide) rfl rfl (lc_15 hω hL hi hn hu I K), ?_⟩
    refine List.forall_mem_cons.mpr ⟨rj_tableIn (off := 1394) (t := 1439) dL_law_45 (by decide) (by decide) rfl rfl (lc_16 hω hL hi hn hu I K), ?_⟩
    refine List.forall_mem_cons.mpr ⟨rj_tableIn (off := 1486) (t := 1531) dL_law_45 (by decide) (by decide) rfl rfl (lc_17 hω hL hi hn hu I K), ?_⟩
    refine List.forall_mem_cons.mpr ⟨rj_tableIn (off := 1530) (t := 1575) dL_law_45 (by decide) (by decide) rfl rfl (lc_18 hω hL hi hn hu I K), ?_⟩
    refine List.forall_mem_cons.mpr ⟨rj_tableIn (off := 1598) (t := 1643) dL_law_45 (by decide) (by decide) rfl rfl (lc_19 hω hL hi hn hu I K), ?_⟩
    refine List.forall_mem_cons.mpr ⟨rj_tableIn (off := 1678) (t := 1723) dL_law_45 (by decide) (by decide) rfl rfl (lc_20 hω hL hi hn hu I K), ?_⟩
    refine List.forall_mem_cons.mpr ⟨rj_tableIn (off := 1746) (t := 1791) dL_law_45 (by decide) (by decide) rfl rfl (lc_21 hω hL hi hn hu I K), ?_⟩
    refine List.forall_mem_cons.mpr ⟨rj_tableIn (off := 1826) (t := 1871) dL_law_45 (by decide) (by decide) rfl rfl (lc_22 hω hL hi hn hu I K), ?_⟩
    refine List.forall_mem_cons.mpr ⟨rj_tableIn (off := 1839) (t := 1884) dL_law_45 (by decide) (by decide) rfl rfl (lc_23 hω hL hi hn hu I K), ?_⟩
    refine List.forall_mem_cons.mpr ⟨rj_tableIn (off := 1907) (t := 1952) dL_law_45 (by decide) (by decide) rfl rfl (lc_24 hω hL hi hn hu I K), ?_⟩
    refine List.forall_mem_cons.mpr ⟨rj_tableIn (off := 1963) (t := 2008) dL_law_45 (by decide) (by decide) rfl rfl (lc_25 hω hL hi hn hu I K), ?_⟩
    refine List.forall_mem_cons.mpr ⟨rj_tableIn (off := 2007) (t := 2052) dL_law_45 (by decide) (by decide) rfl rfl (lc_26 hω hL hi hn hu I K), ?_⟩
    refine List.forall_mem_cons.mpr ⟨rj_tableIn (off := 2075) (t := 2120) dL_law_45 (by decide) (by decide) rfl rfl (lc_27 hω hL hi hn hu I K), ?_⟩
    refine List.forall_mem_cons.mpr ⟨rj_tableIn (off := 2143) (t := 2188) dL_law_45 (by decide) (by decide) rfl rfl (lc_28 hω hL hi hn hu I K), ?_⟩
    refine List.forall_mem_cons.mpr ⟨rj_tableIn (off := 2211) (t := 2256) dL_law_45 (by decide) (by decide) rfl rfl (lc_29 hω hL hi hn hu I K), ?_⟩
    refine List.forall_mem_cons.mpr ⟨rj_tableIn (off := 2224) (t := 2269) dL_law_45 (by decide) (by decide) rfl rfl (lc_30 hω hL hi hn hu I K), ?_⟩
    refine List.forall_mem_cons.mpr ⟨rj_tableIn (off := 2304) (t := 2349) dL_law_45 (by decide) (by decide) rfl rfl (lc_31 hω hL hi hn hu I K), ?_⟩
    refine List.forall_mem_cons.mpr ⟨rj_tableIn (off := 2379) (t := 2424) dL_law_45 (by decide) (by decide) rfl rfl (lc_32 hω hL hi hn hu I K), ?_⟩
    refine List.forall_mem_cons.mpr ⟨rj_tableIn (off := 2392) (t := 2437) dL_law_45 (by decide) (by decide) rfl rfl (lc_33 hω hL hi hn hu I K), ?_⟩
    refine List.forall_mem_cons.mpr ⟨rj_tableIn (off := 2433) (t := 2478) dL_law_45 (by decide) (by decide) rfl rfl (lc_34 hω hL hi hn hu I K), ?_⟩
    refine List.forall_mem_cons.mpr ⟨rj_tableIn (off := 2501) (t := 2546) dL_law_45 (by decide) (by decide) rfl rfl (lc_35 hω hL hi hn hu I K), ?_⟩
    refine List.forall_mem_cons.mpr ⟨rj_tableIn (off := 2581) (t := 2626) dL_law_45 (by decide) (by decide) rfl rfl (lc_36 hω hL hi hn hu I K), ?_⟩
    refine List.forall_mem_cons.mpr ⟨rj_tableIn (off := 2649) (t := 2694) dL_law_45 (by decide) (by decide) rfl rfl (lc_37 hω hL hi hn hu I K), ?_⟩
    refine List.forall_mem_cons.mpr ⟨rj_tableIn (off := 2717) (t := 2762) dL_law_45 (by decide) (by decide) rfl rfl (lc_38 hω hL hi hn hu I K), ?_⟩
    refine List.forall_mem_cons.mpr ⟨rj_tableIn (off := 2730) (t := 2775) dL_law_45 (by decide) (by decide) rfl rfl (lc_39 hω hL hi hn hu I K), ?_⟩
    refine List.forall_mem_cons.mpr ⟨rj_tableIn (off := 2743) (t := 2788) dL_law_45 (by decide) (by decide) rfl rfl (lc_40 hω hL hi hn hu I K), ?_⟩
    refine List.forall_mem_cons.mpr ⟨rj_tableIn (off := 2799) (t := 2844) dL_law_45 (by decide) (by decide) rfl rfl (lc_41 hω hL hi hn hu I K), ?_⟩
    refine List.forall_mem_cons.mpr ⟨rj_tableIn (off := 2883) (t := 2928) dL_law_45 (by decide) (by decide) rfl rfl (lc_42 hω hL hi hn hu I K), ?_⟩
    refine List.forall_mem_cons.mpr ⟨rj_tableIn (off := 2939) (t := 2984) dL_law_45 (by decide) (by decide) rfl rfl (lc_43 hω hL hi hn hu I K), ?_⟩
    refine List.forall_mem_cons.mpr ⟨rj_tableIn (off := 2980) (t := 3025) dL_law_45 (by decide) (by decide) rfl rfl (lc_44 hω hL hi hn hu I K), ?_⟩
    refine List.forall_mem_cons.mpr ⟨rj_tableIn (off := 2993) (t := 3038) dL_law_45 (by decide) (by decide) rfl rfl (lc_45 hω hL hi hn hu I K), ?_⟩
    refine List.forall_mem_cons.mpr ⟨rj_tableIn (off := 3049) (t := 3094) dL_law_45 (by decide) (by decide) rfl rfl (lc_46 hω hL hi hn hu I K), ?_⟩
    refine List.forall_mem_cons.mpr ⟨rj_tableIn (off := 3062) (t := 3107) dL_law_45 (by decide) (by decide) rfl rfl (lc_47 hω hL hi hn hu I K), ?_⟩
    refine List.forall_mem_cons.mpr ⟨rj_tableIn (off := 3075) (t := 3120) dL_law_45 (by decide) (by decide) rfl rfl (lc_48 hω hL hi hn hu I K), ?_⟩
    refine List.forall_mem_cons.mpr ⟨rj_tableIn (off := 3131) (t := 3176) dL_law_45 (by decide) (by decide) rfl rfl (lc_49 hω hL hi hn hu I K), ?_⟩
    refine List.forall_mem_cons.mpr ⟨rj_tableIn (off := 3199) (t := 3244) dL_law_45 (by decide) (by decide) rfl rfl (lc_50 hω hL hi hn hu I K), ?_⟩
    refine List.forall_mem_cons.mpr ⟨rj_tableIn (off := 3255) (t := 3300) dL_law_45 (by decide) (by decide) rfl rfl (lc_51 hω hL hi hn hu I K), ?_⟩
    refine List.forall_mem_cons.mpr ⟨rj_tableIn (off := 3323) (t := 3368) dL_law_45 (by decide) (by decide) rfl rfl (lc_52 hω hL hi hn hu I K), ?_⟩
    refine List.forall_mem_cons.mpr ⟨rj_tableIn (off := 3390) (t := 3435) dL_law_45 (by decide) (by decide) rfl rfl (lc_53 hω hL hi hn hu I K), ?_⟩
    refine List.forall_mem_cons.mpr ⟨rj_tableIn (off := 3403) (t := 3448) dL_law_45 (by decide) (by decide) rfl rfl (lc_54 hω hL hi hn hu I K), ?_⟩
    refine List.forall_mem_cons.mpr ⟨rj_tableIn (off := 3480) (t := 3525) dL_law_45 (by decide) (by decide) rfl rfl (lc_55 hω hL hi hn hu I K), ?_⟩
    refine List.forall_mem_cons.mpr ⟨rj_tableIn (off := 3523) (t := 3568) dL_law_45 (by decide) (by decide) rfl rfl (lc_56 hω hL hi hn hu I K), ?_⟩
    refine List.forall_mem_cons.mpr ⟨rj_tableIn (off := 3537) (t := 3582) dL_law_45 (by decide) (by decide) rfl rfl (lc_57 hω hL hi hn hu I K), ?_⟩
    refine List.forall_mem_cons.mpr ⟨rj_tableOut (t := 3595) dL_law_45 (.inr (by decide)) rfl KD, ?_⟩
    refine List.forall_mem_cons.mpr ⟨rj_tableOut (t := 3595) dL_law_45 (.inr (by decide)) rfl KD, ?_⟩
    refine List.forall_mem_cons.mpr ⟨rj_tableOut (t := 3595) dL_law_45 (.inr (by decide)) rfl KD, ?_⟩
    refine List.forall_mem_cons.mpr ⟨rj_tableOut (t := 3595) dL_law_45 (.inr (by decide)) rfl KD, ?_⟩
    refine List.forall_mem_cons.mpr ⟨rj_tableOut (t := 3595) dL_law_45 (.inr (by decide)) rfl KD, ?_⟩
    refine List.forall_mem_cons.mpr ⟨rj_tableOut (t := 3595) dL_law_45 (.inr (by decide)) rfl KD, ?_⟩
    exact fun _ h => absurd h List.not_mem_nil
  exact key v (List.mem_range.mpr hv)
set_option maxHeartbeats 4000000 in
set_option maxRecDepth 100000 in
theorem rl_loop {g : rj_G} {hh : List (Nat × Nat × Nat × Nat)} {b L : Nat} {xs : Nat → Int32} (hL : L ≤ 3072) : ∀ (r n u : Nat) (ω : rj_W) (μ : rj_M), L ≤ 6 * (n + r) → n ≤ 512 → u ≤ 3000 + 80 * n → rj_ok ω → zi_I n μ μ → rl_R g hh b L xs u ω μ (ll b ω.2.2 (6 * n)) 28 [] := by
  intro r
  induction r with
  | zero =>
    intro n u ω μ hr hn hu hω I
    refine rj_iload 5 dL_law_28 rfl rfl ?_
    refine rj_aload_n 0 dL_law_30 rfl rfl ?_
    refine rl_slen dL_law_31 rfl ?_
    refine rj_bipush (v := 6) dL_law_32 rfl (by decide) ?_
    refine rj_isub dL_law_34 rfl ?_
    refine rj_icmp_gt dL_law_35 rfl rfl (fun _ => ?_) (fun h => ?_)
    · refine rj_iconst (v := 1) dL_law_3601 rfl (by decide) ?_
      exact rl_end dL_law_3602 (by omega)
    · refine absurd ?_ h
      by_cases c : L < 6
      · exact rl_neg6 c (by omega)
      · rw [show (6 : Int32) = nI 6 from rfl, pk_sub (by omega)]
        exact nI_lt (by omega) (by omega)
  | succ r ih =>
    intro n u ω μ hr hn hu hω I
    refine rj_iload 5 dL_law_28 rfl rfl ?_
    refine rj_aload_n 0 dL_law_30 rfl rfl ?_
    refine rl_slen dL_law_31 rfl ?_
    refine rj_bipush (v := 6) dL_law_32 rfl (by decide) ?_
    refine rj_isub dL_law_34 rfl ?_
    refine rj_icmp_gt dL_law_35 rfl rfl (fun _ => ?_) (fun h => ?_)
    · refine rj_iconst (v := 1) dL_law_3601 rfl (by decide) ?_
      exact rl_end dL_law_3602 (by omega)
    · have hi : 6 * n + 6 ≤ L := by
        rcases Nat.lt_or_ge L (6 * n + 6) with c | c
        · refine absurd ?_ h
          by_cases c2 : L < 6
          · exact rl_neg6 c2 (by omega)
          · rw [show (6 : Int32) = nI 6 from rfl, pk_sub (by omega)]
            exact nI_lt (by omega) (by omega)
        · exact c
      refine rj_aload_n 0 dL_law_38 rfl rfl ?_
      refine rj_iload 5 dL_law_39 rfl rfl ?_
      refine rl_sld dL_law_41 rfl (vp_in_nI (by omega) (by omega)) ?_
      refine rj_bipush (v := 63) dL_law_42 rfl (by decide) ?_
      refine rj_iand dL_law_44 rfl ?_
      obtain ⟨v, hv, e⟩ := rl_and63 (xs (nI (6 * n)).toNatClampNeg)
      rw [e]
      refine rl_disp hω hL hi (by omega) (by omega) I (fun u' ω' μ' hu' hω' ha I' => ?_) hv
      refine rj_iinc (v := nI (6 * (n + 1))) (l' := (5, .int (nI (6 * (n + 1)))) :: [(0, .ref b), (1, .ref (ω'.2.2 0)), (2, .ref (ω'.2.2 395)), (3, .ref (ω'.2.2 438)), (4, .ref (ω'.2.2 439))]) 5 dL_law_3595 rfl rfl ?_ (rj_bl rfl) rfl ?_
      · show nI (6 * n) + nI 6 = nI (6 * (n + 1))
        rw [nI_add]
        exact congrArg nI (by omega)
      refine rj_goto dL_law_3598 rfl ?_
      exact rj_sub (l' := ll b ω'.2.2 (6 * (n + 1))) [1, 2, 3, 4, 5, 0] rfl (ih (n + 1) u' ω' μ' (by omega) (by omega) (by omega) hω' I')
