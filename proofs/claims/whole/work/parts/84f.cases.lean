set_option maxHeartbeats 4000000 in
set_option maxRecDepth 100000 in
theorem lc_40 {g : rj_G} {hh : List (Nat × Nat × Nat × Nat)} {b L n u i : Nat} {xs : Nat → Int32} {ω : rj_W} {μ : rj_M} (hω : rj_ok ω) (hL : L ≤ 3072) (hi : i + 6 ≤ L) (hn : n ≤ 600) (hu : u ≤ 500000) (I : zi_I n μ μ) (K : rl_K g hh b L xs n u ω i) : rl_R g hh b L xs u ω μ (ll b ω.2.2 i) 2788 [] := by
  have op := fun (c r : rj_M) (h : zi_I n c r) => zu_line (c := c) (r := r) (a0 := (xs (i + 1))) h
  obtain ⟨hx, hI1, hI2, ht, ho⟩ := zl_A (n := n) (μ := μ) (Ls := ["java/lang/IndexOutOfBoundsException"]) (F := fun c => fX11_line c (xs (i + 1))) (M := fun c => c) (R := fun r => mX12_line r (xs (i + 1))) (B := fun r => fX12_line r (xs (i + 1))) (cv := fun v => v.toInt64) (mL := (mL_line μ (xs (i + 1)))) (kk := (fL_line μ (xs (i + 1)))) (fun c r h => ⟨(op c r h).1, (op c r h).2.1⟩) (by decide) I rfl rfl
  have hq2 := (op μ _ hI1).2.2
  refine rj_aload_n 1 dL_law_2788 rfl rfl ?_
  refine rl_arg (kk := 1) hL hi (by decide) (by decide) 0 5 rfl rfl dL_law_2789 rfl dL_law_2790 rfl dL_law_2792 rfl dL_law_2793 rfl dL_law_2794 rfl ?_
  refine rj_aload_n 3 dL_law_2795 rfl rfl ?_
  refine rl_callW (av := [.ref (ω.2.2 0), .int (xs (i + 1)), .ref (ω.2.2 438)]) (rest := []) (sL_line (g := g) (ω := ω) hω μ (xs (i + 1)) hx) lw_k_L_line rfl hSL_line ⟨Nat.le_of_ble_eq_true rfl, Nat.le_of_ble_eq_true rfl⟩ rfl rfl (Nat.le_of_ble_eq_true rfl) dL_law_2796 rfl (by omega) ?_
  refine rj_istore (l' := (6, .int (fL_line μ (xs (i + 1)))) :: ll b ω.2.2 i) dL_law_2799 rfl (rj_bl rfl) rfl ?_
  refine rj_aload_n 3 dL_law_2801 rfl rfl ?_
  refine rl_arg (kk := 1) hL hi (by decide) (by decide) 1 6 rfl rfl dL_law_2802 rfl dL_law_2803 rfl dL_law_2805 rfl dL_law_2806 rfl dL_law_2807 rfl ?_
  refine rl_callV (av := [.int (xs (i + 1))]) (rest := []) (sX12_line (g := g) (ω := ω) hω (mL_line μ (xs (i + 1))) (xs (i + 1)) hq2) lw_k_X12_line (rj_lt hω (k := 395) rfl) (rj_sh hω ly_395) rfl rfl hVX12_line ⟨Nat.le_of_ble_eq_true rfl, Nat.le_of_ble_eq_true rfl⟩ rfl rfl (Nat.le_of_ble_eq_true rfl) dL_law_2808 rfl (by omega) ?_
  exact rl_tailI hω (by omega) ht (fun h => (ho h).1) dL_law_2811 rfl dL_law_2813 rfl dL_law_2814 rfl dL_law_2817 rfl dL_law_2819 rfl dL_law_2824 rfl dL_law_2826 rfl rfl dL_law_2829 rfl dL_law_2830 rfl dL_law_2831 rfl dL_law_2832 rfl dL_law_2834 rfl dL_law_2835 rfl dL_law_2836 rfl dL_law_2841 rfl (K _ ω _ (by omega) hω (fun _ _ => rfl) hI2)

set_option maxHeartbeats 4000000 in
set_option maxRecDepth 100000 in
theorem lc_41 {g : rj_G} {hh : List (Nat × Nat × Nat × Nat)} {b L n u i : Nat} {xs : Nat → Int32} {ω : rj_W} {μ : rj_M} (hω : rj_ok ω) (hL : L ≤ 3072) (hi : i + 6 ≤ L) (hn : n ≤ 600) (hu : u ≤ 500000) (I : zi_I n μ μ) (K : rl_K g hh b L xs n u ω i) : rl_R g hh b L xs u ω μ (ll b ω.2.2 i) 2844 [] := by
  have op := fun (c r : rj_M) (h : zi_I n c r) => zu_front (c := c) (r := r) (a0 := (xs (i + 1))) (a1 := (rl_b (xs (i + 2)))) h
  obtain ⟨hx, hI1, hI2, ht, ho⟩ := zl_A (n := n) (μ := μ) (Ls := ["java/lang/IndexOutOfBoundsException", "java/util/NoSuchElementException"]) (F := fun c => fX11_front c (xs (i + 1)) (rl_b (xs (i + 2)))) (M := fun c => c) (R := fun r => mX12_front r (xs (i + 1)) (rl_b (xs (i + 2)))) (B := fun r => fX12_front r (xs (i + 1)) (rl_b (xs (i + 2)))) (cv := fun v => v.toInt64) (mL := (mL_front μ (xs (i + 1)) (rl_b (xs (i + 2))))) (kk := (fL_front μ (xs (i + 1)) (rl_b (xs (i + 2))))) (fun c r h => ⟨(op c r h).1, (op c r h).2.1⟩) (by decide) I rfl rfl
  have hq2 := (op μ _ hI1).2.2
  refine rj_aload_n 1 dL_law_2844 rfl rfl ?_
  refine rl_arg (kk := 1) hL hi (by decide) (by decide) 0 5 rfl rfl dL_law_2845 rfl dL_law_2846 rfl dL_law_2848 rfl dL_law_2849 rfl dL_law_2850 rfl ?_
  refine rl_arg (kk := 2) hL hi (by decide) (by decide) 0 5 rfl rfl dL_law_2851 rfl dL_law_2852 rfl dL_law_2854 rfl dL_law_2855 rfl dL_law_2856 rfl ?_
  refine rl_bool dL_law_2857 rfl rfl dL_law_2860 rfl dL_law_2861 rfl dL_law_2864 rfl ?_
  refine rj_aload_n 3 dL_law_2865 rfl rfl ?_
  refine rl_callW (av := [.ref (ω.2.2 0), .int (xs (i + 1)), .int (rl_b (xs (i + 2))), .ref (ω.2.2 438)]) (rest := []) (sL_front (g := g) (ω := ω) hω μ (xs (i + 1)) (rl_b (xs (i + 2))) hx) lw_k_L_front rfl hSL_front ⟨Nat.le_of_ble_eq_true rfl, Nat.le_of_ble_eq_true rfl⟩ rfl rfl (Nat.le_of_ble_eq_true rfl) dL_law_2866 rfl (by omega) ?_
  refine rj_istore (l' := (6, .int (fL_front μ (xs (i + 1)) (rl_b (xs (i + 2))))) :: ll b ω.2.2 i) dL_law_2869 rfl (rj_bl rfl) rfl ?_
  refine rj_aload_n 3 dL_law_2871 rfl rfl ?_
  refine rl_arg (kk := 1) hL hi (by decide) (by decide) 1 6 rfl rfl dL_law_2872 rfl dL_law_2873 rfl dL_law_2875 rfl dL_law_2876 rfl dL_law_2877 rfl ?_
  refine rl_arg (kk := 2) hL hi (by decide) (by decide) 1 6 rfl rfl dL_law_2878 rfl dL_law_2879 rfl dL_law_2881 rfl dL_law_2882 rfl dL_law_2883 rfl ?_
  refine rl_bool dL_law_2884 rfl rfl dL_law_2887 rfl dL_law_2888 rfl dL_law_2891 rfl ?_
  refine rl_callV (av := [.int (xs (i + 1)), .int (rl_b (xs (i + 2)))]) (rest := []) (sX12_front (g := g) (ω := ω) hω (mL_front μ (xs (i + 1)) (rl_b (xs (i + 2)))) (xs (i + 1)) (rl_b (xs (i + 2))) hq2) lw_k_X12_front (rj_lt hω (k := 395) rfl) (rj_sh hω ly_395) rfl rfl hVX12_front ⟨Nat.le_of_ble_eq_true rfl, Nat.le_of_ble_eq_true rfl⟩ rfl rfl (Nat.le_of_ble_eq_true rfl) dL_law_2892 rfl (by omega) ?_
  exact rl_tailI hω (by omega) ht (fun h => (ho h).1) dL_law_2895 rfl dL_law_2897 rfl dL_law_2898 rfl dL_law_2901 rfl dL_law_2903 rfl dL_law_2908 rfl dL_law_2910 rfl rfl dL_law_2913 rfl dL_law_2914 rfl dL_law_2915 rfl dL_law_2916 rfl dL_law_2918 rfl dL_law_2919 rfl dL_law_2920 rfl dL_law_2925 rfl (K _ ω _ (by omega) hω (fun _ _ => rfl) hI2)

set_option maxHeartbeats 4000000 in
set_option maxRecDepth 100000 in
theorem lc_42 {g : rj_G} {hh : List (Nat × Nat × Nat × Nat)} {b L n u i : Nat} {xs : Nat → Int32} {ω : rj_W} {μ : rj_M} (hω : rj_ok ω) (hL : L ≤ 3072) (hi : i + 6 ≤ L) (hn : n ≤ 600) (hu : u ≤ 500000) (I : zi_I n μ μ) (K : rl_K g hh b L xs n u ω i) : rl_R g hh b L xs u ω μ (ll b ω.2.2 i) 2928 [] := by
  have op := fun (c r : rj_M) (h : zi_I n c r) => zu_waitOf (c := c) (r := r) (a0 := (xs (i + 1))) h
  obtain ⟨hx, hI1, hI2, ht, ho⟩ := zl_A (n := n) (μ := μ) (Ls := ["java/lang/IndexOutOfBoundsException"]) (F := fun c => fX11_waitOf c (xs (i + 1))) (M := fun c => c) (R := fun r => mX12_waitOf r (xs (i + 1))) (B := fun r => fX12_waitOf r (xs (i + 1))) (cv := fun v => v.toInt64) (mL := (mL_waitOf μ (xs (i + 1)))) (kk := (fL_waitOf μ (xs (i + 1)))) (fun c r h => ⟨(op c r h).1, (op c r h).2.1⟩) (by decide) I rfl rfl
  have hq2 := (op μ _ hI1).2.2
  refine rj_aload_n 1 dL_law_2928 rfl rfl ?_
  refine rl_arg (kk := 1) hL hi (by decide) (by decide) 0 5 rfl rfl dL_law_2929 rfl dL_law_2930 rfl dL_law_2932 rfl dL_law_2933 rfl dL_law_2934 rfl ?_
  refine rj_aload_n 3 dL_law_2935 rfl rfl ?_
  refine rl_callW (av := [.ref (ω.2.2 0), .int (xs (i + 1)), .ref (ω.2.2 438)]) (rest := []) (sL_waitOf (g := g) (ω := ω) hω μ (xs (i + 1)) hx) lw_k_L_waitOf rfl hSL_waitOf ⟨Nat.le_of_ble_eq_true rfl, Nat.le_of_ble_eq_true rfl⟩ rfl rfl (Nat.le_of_ble_eq_true rfl) dL_law_2936 rfl (by omega) ?_
  refine rj_istore (l' := (6, .int (fL_waitOf μ (xs (i + 1)))) :: ll b ω.2.2 i) dL_law_2939 rfl (rj_bl rfl) rfl ?_
  refine rj_aload_n 3 dL_law_2941 rfl rfl ?_
  refine rl_arg (kk := 1) hL hi (by decide) (by decide) 1 6 rfl rfl dL_law_2942 rfl dL_law_2943 rfl dL_law_2945 rfl dL_law_2946 rfl dL_law_2947 rfl ?_
  refine rl_callV (av := [.int (xs (i + 1))]) (rest := []) (sX12_waitOf (g := g) (ω := ω) hω (mL_waitOf μ (xs (i + 1))) (xs (i + 1)) hq2) lw_k_X12_waitOf (rj_lt hω (k := 395) rfl) (rj_sh hω ly_395) rfl rfl hVX12_waitOf ⟨Nat.le_of_ble_eq_true rfl, Nat.le_of_ble_eq_true rfl⟩ rfl rfl (Nat.le_of_ble_eq_true rfl) dL_law_2948 rfl (by omega) ?_
  exact rl_tailI hω (by omega) ht (fun h => (ho h).1) dL_law_2951 rfl dL_law_2953 rfl dL_law_2954 rfl dL_law_2957 rfl dL_law_2959 rfl dL_law_2964 rfl dL_law_2966 rfl rfl dL_law_2969 rfl dL_law_2970 rfl dL_law_2971 rfl dL_law_2972 rfl dL_law_2974 rfl dL_law_2975 rfl dL_law_2976 rfl dL_law_2981 rfl (K _ ω _ (by omega) hω (fun _ _ => rfl) hI2)

set_option maxHeartbeats 4000000 in
set_option maxRecDepth 100000 in
theorem lc_43 {g : rj_G} {hh : List (Nat × Nat × Nat × Nat)} {b L n u i : Nat} {xs : Nat → Int32} {ω : rj_W} {μ : rj_M} (hω : rj_ok ω) (hL : L ≤ 3072) (hi : i + 6 ≤ L) (hn : n ≤ 600) (hu : u ≤ 500000) (I : zi_I n μ μ) (K : rl_K g hh b L xs n u ω i) : rl_R g hh b L xs u ω μ (ll b ω.2.2 i) 2984 [] := by
  have op := fun (c r : rj_M) (h : zi_I n c r) => zu_waits (c := c) (r := r) (kN := ω.1) (a0 := (rl_b (xs (i + 1)))) (by omega) hω.1 h
  obtain ⟨hI1, hI2, he⟩ := zl_B (n := n) (μ := μ) (M := fun c => mX11_waits c (rl_b (xs (i + 1)))) (R := fun r => mX12_waits r (rl_b (xs (i + 1))) ω.1) (Fv := fun c => fX11_waits c (rl_b (xs (i + 1)))) (Bv := fun r => fX12_waits r (rl_b (xs (i + 1))) ω.1) (fun c r h => ⟨(op c r h).1, (op c r h).2.2.1⟩) I
  have hq2 := (op μ _ hI1).2.2.2
  refine rj_aload_n 1 dL_law_2984 rfl rfl ?_
  refine rl_arg (kk := 1) hL hi (by decide) (by decide) 0 5 rfl rfl dL_law_2985 rfl dL_law_2986 rfl dL_law_2988 rfl dL_law_2989 rfl dL_law_2990 rfl ?_
  refine rl_bool dL_law_2991 rfl rfl dL_law_2994 rfl dL_law_2995 rfl dL_law_2998 rfl ?_
  refine rl_callV (av := [.int (rl_b (xs (i + 1)))]) (rest := []) (sX11_waits (g := g) (ω := ω) hω μ (rl_b (xs (i + 1)))) lw_k_X11_waits (rj_lt hω (k := 0) rfl) (rj_sh hω ly_0) rfl rfl hVX11_waits ⟨Nat.le_of_ble_eq_true rfl, Nat.le_of_ble_eq_true rfl⟩ rfl rfl (Nat.le_of_ble_eq_true rfl) dL_law_2999 rfl (by omega) ?_
  refine rj_aload_n 2 dL_law_3002 rfl rfl ?_
  refine rl_arg (kk := 1) hL hi (by decide) (by decide) 0 5 rfl rfl dL_law_3003 rfl dL_law_3004 rfl dL_law_3006 rfl dL_law_3007 rfl dL_law_3008 rfl ?_
  refine rl_bool dL_law_3009 rfl rfl dL_law_3012 rfl dL_law_3013 rfl dL_law_3016 rfl ?_
  refine rl_callG (av := [.int (rl_b (xs (i + 1)))]) (rest := [.int (fX11_waits μ (rl_b (xs (i + 1))))]) (sX12_waits (g := g) (ω := ω) hω (mX11_waits μ (rl_b (xs (i + 1)))) (rl_b (xs (i + 1))) ω.1 rfl (zi_cr hI1) hq2) lw_k_X12_waits (rj_lt hω (k := 395) rfl) (rj_sh hω ly_395) rfl rfl hVX12_waits ⟨Nat.le_of_ble_eq_true rfl, Nat.le_of_ble_eq_true rfl⟩ rfl rfl (Nat.le_of_ble_eq_true rfl) dL_law_3017 rfl (by omega) (fun ω' hω' ha => ?_)
  have KK := fun (u1 : Nat) (hu1 : u1 ≤ u + 80) => K u1 ω' _ hu1 hω' ha hI2
  rw [ll_same ha] at KK
  exact rj_icmp_eq dL_law_3020 rfl rfl (fun _ => KK _ (by omega)) (fun h => absurd he h)

set_option maxHeartbeats 4000000 in
set_option maxRecDepth 100000 in
theorem lc_44 {g : rj_G} {hh : List (Nat × Nat × Nat × Nat)} {b L n u i : Nat} {xs : Nat → Int32} {ω : rj_W} {μ : rj_M} (hω : rj_ok ω) (hL : L ≤ 3072) (hi : i + 6 ≤ L) (hn : n ≤ 600) (hu : u ≤ 500000) (I : zi_I n μ μ) (K : rl_K g hh b L xs n u ω i) : rl_R g hh b L xs u ω μ (ll b ω.2.2 i) 3025 [] := by
  have op := fun (c r : rj_M) (h : zi_I n c r) => zu_served (c := c) (r := r) h
  obtain ⟨hI1, hI2, he⟩ := zl_B (n := n) (μ := μ) (M := fun c => c) (R := fun r => mX12_served r) (Fv := fun c => fX11_served c ) (Bv := fun r => fX12_served r) (fun c r h => ⟨(op c r h).1, (op c r h).2.2⟩) I
  refine rj_aload_n 1 dL_law_3025 rfl rfl ?_
  refine rl_callV (av := []) (rest := []) (sX11_served (g := g) (ω := ω) hω μ ) lw_k_X11_served (rj_lt hω (k := 0) rfl) (rj_sh hω ly_0) rfl rfl hVX11_served ⟨Nat.le_of_ble_eq_true rfl, Nat.le_of_ble_eq_true rfl⟩ rfl rfl (Nat.le_of_ble_eq_true rfl) dL_law_3026 rfl (by omega) ?_
  refine rj_aload_n 2 dL_law_3029 rfl rfl ?_
  refine rl_callV (av := []) (rest := [.int (fX11_served μ)]) (sX12_served (g := g) (ω := ω) hω μ ) lw_k_X12_served (rj_lt hω (k := 395) rfl) (rj_sh hω ly_395) rfl rfl hVX12_served ⟨Nat.le_of_ble_eq_true rfl, Nat.le_of_ble_eq_true rfl⟩ rfl rfl (Nat.le_of_ble_eq_true rfl) dL_law_3030 rfl (by omega) ?_
  exact rj_icmp_eq dL_law_3033 rfl rfl (fun _ => (K _ ω _ (by omega) hω (fun _ _ => rfl) hI2)) (fun h => absurd he h)

set_option maxHeartbeats 4000000 in
set_option maxRecDepth 100000 in
theorem lc_45 {g : rj_G} {hh : List (Nat × Nat × Nat × Nat)} {b L n u i : Nat} {xs : Nat → Int32} {ω : rj_W} {μ : rj_M} (hω : rj_ok ω) (hL : L ≤ 3072) (hi : i + 6 ≤ L) (hn : n ≤ 600) (hu : u ≤ 500000) (I : zi_I n μ μ) (K : rl_K g hh b L xs n u ω i) : rl_R g hh b L xs u ω μ (ll b ω.2.2 i) 3038 [] := by
  have op := fun (c r : rj_M) (h : zi_I n c r) => zu_helpers (c := c) (r := r) (a0 := (xs (i + 1))) h
  obtain ⟨hx, hI1, hI2, ht, ho⟩ := zl_A (n := n) (μ := μ) (Ls := ["java/lang/IndexOutOfBoundsException"]) (F := fun c => fX11_helpers c (xs (i + 1))) (M := fun c => mX11_helpers c (xs (i + 1))) (R := fun r => mX12_helpers r (xs (i + 1))) (B := fun r => fX12_helpers r (xs (i + 1))) (cv := fun v => v.toInt64) (mL := (mL_helpers μ (xs (i + 1)))) (kk := (fL_helpers μ (xs (i + 1)))) (fun c r h => ⟨(op c r h).1, (op c r h).2.1⟩) (by decide) I rfl rfl
  have hq1 := (op μ μ I).2.2.1
  have hq2 := (op μ _ hI1).2.2.2
  refine rj_aload_n 1 dL_law_3038 rfl rfl ?_
  refine rl_arg (kk := 1) hL hi (by decide) (by decide) 0 5 rfl rfl dL_law_3039 rfl dL_law_3040 rfl dL_law_3042 rfl dL_law_3043 rfl dL_law_3044 rfl ?_
  refine rj_aload_n 3 dL_law_3045 rfl rfl ?_
  refine rl_callW (av := [.ref (ω.2.2 0), .int (xs (i + 1)), .ref (ω.2.2 438)]) (rest := []) (sL_helpers (g := g) (ω := ω) hω μ (xs (i + 1)) hq1 hx) lw_k_L_helpers rfl hSL_helpers ⟨Nat.le_of_ble_eq_true rfl, Nat.le_of_ble_eq_true rfl⟩ rfl rfl (Nat.le_of_ble_eq_true rfl) dL_law_3046 rfl (by omega) ?_
  refine rj_istore (l' := (6, .int (fL_helpers μ (xs (i + 1)))) :: ll b ω.2.2 i) dL_law_3049 rfl (rj_bl rfl) rfl ?_
  refine rj_aload_n 3 dL_law_3051 rfl rfl ?_
  refine rl_arg (kk := 1) hL hi (by decide) (by decide) 1 6 rfl rfl dL_law_3052 rfl dL_law_3053 rfl dL_law_3055 rfl dL_law_3056 rfl dL_law_3057 rfl ?_
  refine rl_callV (av := [.int (xs (i + 1))]) (rest := []) (sX12_helpers (g := g) (ω := ω) hω (mL_helpers μ (xs (i + 1))) (xs (i + 1)) hq2) lw_k_X12_helpers (rj_lt hω (k := 395) rfl) (rj_sh hω ly_395) rfl rfl hVX12_helpers ⟨Nat.le_of_ble_eq_true rfl, Nat.le_of_ble_eq_true rfl⟩ rfl rfl (Nat.le_of_ble_eq_true rfl) dL_law_3058 rfl (by omega) ?_
  exact rl_tailI hω (by omega) ht (fun h => (ho h).1) dL_law_3061 rfl dL_law_3063 rfl dL_law_3064 rfl dL_law_3067 rfl dL_law_3069 rfl dL_law_3074 rfl dL_law_3076 rfl rfl dL_law_3079 rfl dL_law_3080 rfl dL_law_3081 rfl dL_law_3082 rfl dL_law_3084 rfl dL_law_3085 rfl dL_law_3086 rfl dL_law_3091 rfl (K _ ω _ (by omega) hω (fun _ _ => rfl) hI2)

set_option maxHeartbeats 4000000 in
set_option maxRecDepth 100000 in
theorem lc_46 {g : rj_G} {hh : List (Nat × Nat × Nat × Nat)} {b L n u i : Nat} {xs : Nat → Int32} {ω : rj_W} {μ : rj_M} (hω : rj_ok ω) (hL : L ≤ 3072) (hi : i + 6 ≤ L) (hn : n ≤ 600) (hu : u ≤ 500000) (I : zi_I n μ μ) (K : rl_K g hh b L xs n u ω i) : rl_R g hh b L xs u ω μ (ll b ω.2.2 i) 3094 [] := by
  have op := fun (c r : rj_M) (h : zi_I n c r) => zu_proof (c := c) (r := r) h
  obtain ⟨hI1, hI2, he⟩ := zl_B (n := n) (μ := μ) (M := fun c => mX11_proof c) (R := fun r => mX12_proof r) (Fv := fun c => fX11_proof c ) (Bv := fun r => fX12_proof r) (fun c r h => ⟨(op c r h).1, (op c r h).2.2.1⟩) I
  have hq2 := (op μ _ hI1).2.2.2
  refine rj_aload_n 1 dL_law_3094 rfl rfl ?_
  refine rl_callV (av := []) (rest := []) (sX11_proof (g := g) (ω := ω) hω μ ) lw_k_X11_proof (rj_lt hω (k := 0) rfl) (rj_sh hω ly_0) rfl rfl hVX11_proof ⟨Nat.le_of_ble_eq_true rfl, Nat.le_of_ble_eq_true rfl⟩ rfl rfl (Nat.le_of_ble_eq_true rfl) dL_law_3095 rfl (by omega) ?_
  refine rj_aload_n 2 dL_law_3098 rfl rfl ?_
  refine rl_callV (av := []) (rest := [.int (fX11_proof μ)]) (sX12_proof (g := g) (ω := ω) hω (mX11_proof μ)  hq2) lw_k_X12_proof (rj_lt hω (k := 395) rfl) (rj_sh hω ly_395) rfl rfl hVX12_proof ⟨Nat.le_of_ble_eq_true rfl, Nat.le_of_ble_eq_true rfl⟩ rfl rfl (Nat.le_of_ble_eq_true rfl) dL_law_3099 rfl (by omega) ?_
  exact rj_icmp_eq dL_law_3102 rfl rfl (fun _ => (K _ ω _ (by omega) hω (fun _ _ => rfl) hI2)) (fun h => absurd he h)

set_option maxHeartbeats 4000000 in
set_option maxRecDepth 100000 in
theorem lc_47 {g : rj_G} {hh : List (Nat × Nat × Nat × Nat)} {b L n u i : Nat} {xs : Nat → Int32} {ω : rj_W} {μ : rj_M} (hω : rj_ok ω) (hL : L ≤ 3072) (hi : i + 6 ≤ L) (hn : n ≤ 600) (hu : u ≤ 500000) (I : zi_I n μ μ) (K : rl_K g hh b L xs n u ω i) : rl_R g hh b L xs u ω μ (ll b ω.2.2 i) 3107 [] := by
  have op := fun (c r : rj_M) (h : zi_I n c r) => zu_cost (c := c) (r := r) h
  obtain ⟨hI1, hI2, he⟩ := zl_B (n := n) (μ := μ) (M := fun c => mX11_cost c) (R := fun r => mX12_cost r) (Fv := fun c => fX11_cost c ) (Bv := fun r => fX12_cost r) (fun c r h => ⟨(op c r h).1, (op c r h).2.2.1⟩) I
  have hq2 := (op μ _ hI1).2.2.2
  refine rj_aload_n 1 dL_law_3107 rfl rfl ?_
  refine rl_callV (av := []) (rest := []) (sX11_cost (g := g) (ω := ω) hω μ ) lw_k_X11_cost (rj_lt hω (k := 0) rfl) (rj_sh hω ly_0) rfl rfl hVX11_cost ⟨Nat.le_of_ble_eq_true rfl, Nat.le_of_ble_eq_true rfl⟩ rfl rfl (Nat.le_of_ble_eq_true rfl) dL_law_3108 rfl (by omega) ?_
  refine rj_aload_n 2 dL_law_3111 rfl rfl ?_
  refine rl_callV (av := []) (rest := [.int (fX11_cost μ)]) (sX12_cost (g := g) (ω := ω) hω (mX11_cost μ)  hq2) lw_k_X12_cost (rj_lt hω (k := 395) rfl) (rj_sh hω ly_395) rfl rfl hVX12_cost ⟨Nat.le_of_ble_eq_true rfl, Nat.le_of_ble_eq_true rfl⟩ rfl rfl (Nat.le_of_ble_eq_true rfl) dL_law_3112 rfl (by omega) ?_
  exact rj_icmp_eq dL_law_3115 rfl rfl (fun _ => (K _ ω _ (by omega) hω (fun _ _ => rfl) hI2)) (fun h => absurd he h)
