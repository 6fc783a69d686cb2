set_option maxHeartbeats 4000000 in
set_option maxRecDepth 100000 in
theorem lc_24 {g : rj_G} {hh : List (Nat × Nat × Nat × Nat)} {b L n u i : Nat} {xs : Nat → Int32} {ω : rj_W} {μ : rj_M} (hω : rj_ok ω) (hL : L ≤ 3072) (hi : i + 6 ≤ L) (hn : n ≤ 600) (hu : u ≤ 500000) (I : zi_I n μ μ) (K : rl_K g hh b L xs n u ω i) : rl_R g hh b L xs u ω μ (ll b ω.2.2 i) 1952 [] := by
  have op := fun (c r : rj_M) (h : zi_I n c r) => zo_find (c := c) (r := r) (a0 := (xs (i + 1))) h
  obtain ⟨hx, hI1, hI2, ht, ho⟩ := zl_A (n := n) (μ := μ) (Ls := ["java/lang/IndexOutOfBoundsException", "java/util/NoSuchElementException"]) (F := fun c => fX11_find c (xs (i + 1))) (M := fun c => mX11_find c (xs (i + 1))) (R := fun r => mX12_find r (xs (i + 1))) (B := fun r => fX12_find r (xs (i + 1))) (cv := fun v => v.toInt64) (mL := (mL_find μ (xs (i + 1)))) (kk := (fL_find μ (xs (i + 1)))) (fun c r h => ⟨(op c r h).1, (op c r h).2.1⟩) (by decide) I rfl rfl
  have hq1 := (op μ μ I).2.2.1
  have hq2 := (op μ _ hI1).2.2.2
  refine rj_aload_n 1 dL_law_1952 rfl rfl ?_
  refine rl_arg (kk := 1) hL hi (by decide) (by decide) 0 5 rfl rfl dL_law_1953 rfl dL_law_1954 rfl dL_law_1956 rfl dL_law_1957 rfl dL_law_1958 rfl ?_
  refine rj_aload_n 3 dL_law_1959 rfl rfl ?_
  refine rl_callW (av := [.ref (ω.2.2 0), .int (xs (i + 1)), .ref (ω.2.2 438)]) (rest := []) (sL_find (g := g) (ω := ω) hω μ (xs (i + 1)) hq1 hx) lw_k_L_find rfl hSL_find ⟨Nat.le_of_ble_eq_true rfl, Nat.le_of_ble_eq_true rfl⟩ rfl rfl (Nat.le_of_ble_eq_true rfl) dL_law_1960 rfl (by omega) ?_
  refine rj_istore (l' := (6, .int (fL_find μ (xs (i + 1)))) :: ll b ω.2.2 i) dL_law_1963 rfl (rj_bl rfl) rfl ?_
  refine rj_aload_n 3 dL_law_1965 rfl rfl ?_
  refine rl_arg (kk := 1) hL hi (by decide) (by decide) 1 6 rfl rfl dL_law_1966 rfl dL_law_1967 rfl dL_law_1969 rfl dL_law_1970 rfl dL_law_1971 rfl ?_
  refine rl_callV (av := [.int (xs (i + 1))]) (rest := []) (sX12_find (g := g) (ω := ω) hω (mL_find μ (xs (i + 1))) (xs (i + 1)) hq2) lw_k_X12_find (rj_lt hω (k := 395) rfl) (rj_sh hω ly_395) rfl rfl hVX12_find ⟨Nat.le_of_ble_eq_true rfl, Nat.le_of_ble_eq_true rfl⟩ rfl rfl (Nat.le_of_ble_eq_true rfl) dL_law_1972 rfl (by omega) ?_
  exact rl_tailI hω (by omega) ht (fun h => (ho h).1) dL_law_1975 rfl dL_law_1977 rfl dL_law_1978 rfl dL_law_1981 rfl dL_law_1983 rfl dL_law_1988 rfl dL_law_1990 rfl rfl dL_law_1993 rfl dL_law_1994 rfl dL_law_1995 rfl dL_law_1996 rfl dL_law_1998 rfl dL_law_1999 rfl dL_law_2000 rfl dL_law_2005 rfl (K _ ω _ (by omega) hω (fun _ _ => rfl) hI2)

set_option maxHeartbeats 4000000 in
set_option maxRecDepth 100000 in
theorem lc_25 {g : rj_G} {hh : List (Nat × Nat × Nat × Nat)} {b L n u i : Nat} {xs : Nat → Int32} {ω : rj_W} {μ : rj_M} (hω : rj_ok ω) (hL : L ≤ 3072) (hi : i + 6 ≤ L) (hn : n ≤ 600) (hu : u ≤ 500000) (I : zi_I n μ μ) (K : rl_K g hh b L xs n u ω i) : rl_R g hh b L xs u ω μ (ll b ω.2.2 i) 2008 [] := by
  have op := fun (c r : rj_M) (h : zi_I n c r) => zo_undo (c := c) (r := r) h
  obtain ⟨hx, hI1, hI2, ht, ho⟩ := zl_A (n := n) (μ := μ) (Ls := ["java/lang/IllegalStateException"]) (F := fun c => fX11_undo c ) (M := fun c => mX11_undo c) (R := fun r => mX12_undo r) (B := fun r => fX12_undo r) (cv := fun v => v.toInt64) (mL := (mL_undo μ)) (kk := (fL_undo μ)) (fun c r h => ⟨(op c r h).1, (op c r h).2.1⟩) (by decide) I rfl rfl
  have hq1 := (op μ μ I).2.2.1
  have hq2 := (op μ _ hI1).2.2.2
  refine rj_aload_n 1 dL_law_2008 rfl rfl ?_
  refine rj_aload_n 3 dL_law_2009 rfl rfl ?_
  refine rl_callW (av := [.ref (ω.2.2 0), .ref (ω.2.2 438)]) (rest := []) (sL_undo (g := g) (ω := ω) hω μ  hq1 hx) lw_k_L_undo rfl hSL_undo ⟨Nat.le_of_ble_eq_true rfl, Nat.le_of_ble_eq_true rfl⟩ rfl rfl (Nat.le_of_ble_eq_true rfl) dL_law_2010 rfl (by omega) ?_
  refine rj_istore (l' := (6, .int (fL_undo μ)) :: ll b ω.2.2 i) dL_law_2013 rfl (rj_bl rfl) rfl ?_
  refine rj_aload_n 3 dL_law_2015 rfl rfl ?_
  refine rl_callV (av := []) (rest := []) (sX12_undo (g := g) (ω := ω) hω (mL_undo μ)  hq2) lw_k_X12_undo (rj_lt hω (k := 395) rfl) (rj_sh hω ly_395) rfl rfl hVX12_undo ⟨Nat.le_of_ble_eq_true rfl, Nat.le_of_ble_eq_true rfl⟩ rfl rfl (Nat.le_of_ble_eq_true rfl) dL_law_2016 rfl (by omega) ?_
  exact rl_tailI hω (by omega) ht (fun h => (ho h).1) dL_law_2019 rfl dL_law_2021 rfl dL_law_2022 rfl dL_law_2025 rfl dL_law_2027 rfl dL_law_2032 rfl dL_law_2034 rfl rfl dL_law_2037 rfl dL_law_2038 rfl dL_law_2039 rfl dL_law_2040 rfl dL_law_2042 rfl dL_law_2043 rfl dL_law_2044 rfl dL_law_2049 rfl (K _ ω _ (by omega) hω (fun _ _ => rfl) hI2)

set_option maxHeartbeats 4000000 in
set_option maxRecDepth 100000 in
theorem lc_26 {g : rj_G} {hh : List (Nat × Nat × Nat × Nat)} {b L n u i : Nat} {xs : Nat → Int32} {ω : rj_W} {μ : rj_M} (hω : rj_ok ω) (hL : L ≤ 3072) (hi : i + 6 ≤ L) (hn : n ≤ 600) (hu : u ≤ 500000) (I : zi_I n μ μ) (K : rl_K g hh b L xs n u ω i) : rl_R g hh b L xs u ω μ (ll b ω.2.2 i) 2052 [] := by
  have op := fun (c r : rj_M) (h : zi_I n c r) => zu_dateAt (c := c) (r := r) (a0 := (xs (i + 1))) (a1 := (xs (i + 2))) h
  obtain ⟨hx, hI1, hI2, ht, ho⟩ := zl_A (n := n) (μ := μ) (Ls := ["java/lang/IllegalArgumentException"]) (F := fun c => fX11_dateAt c (xs (i + 1)) (xs (i + 2))) (M := fun c => c) (R := fun r => mX12_dateAt r (xs (i + 1)) (xs (i + 2))) (B := fun r => fX12_dateAt r (xs (i + 1)) (xs (i + 2))) (cv := fun v => v.toInt64) (mL := (mL_dateAt μ (xs (i + 1)) (xs (i + 2)))) (kk := (fL_dateAt μ (xs (i + 1)) (xs (i + 2)))) (fun c r h => ⟨(op c r h).1, (op c r h).2.1⟩) (by decide) I rfl rfl
  have hq2 := (op μ _ hI1).2.2
  refine rj_aload_n 1 dL_law_2052 rfl rfl ?_
  refine rl_arg (kk := 1) hL hi (by decide) (by decide) 0 5 rfl rfl dL_law_2053 rfl dL_law_2054 rfl dL_law_2056 rfl dL_law_2057 rfl dL_law_2058 rfl ?_
  refine rl_arg (kk := 2) hL hi (by decide) (by decide) 0 5 rfl rfl dL_law_2059 rfl dL_law_2060 rfl dL_law_2062 rfl dL_law_2063 rfl dL_law_2064 rfl ?_
  refine rj_aload_n 3 dL_law_2065 rfl rfl ?_
  refine rl_callW (av := [.ref (ω.2.2 0), .int (xs (i + 1)), .int (xs (i + 2)), .ref (ω.2.2 438)]) (rest := []) (sL_dateAt (g := g) (ω := ω) hω μ (xs (i + 1)) (xs (i + 2)) hx) lw_k_L_dateAt rfl hSL_dateAt ⟨Nat.le_of_ble_eq_true rfl, Nat.le_of_ble_eq_true rfl⟩ rfl rfl (Nat.le_of_ble_eq_true rfl) dL_law_2066 rfl (by omega) ?_
  refine rj_istore (l' := (6, .int (fL_dateAt μ (xs (i + 1)) (xs (i + 2)))) :: ll b ω.2.2 i) dL_law_2069 rfl (rj_bl rfl) rfl ?_
  refine rj_aload_n 3 dL_law_2071 rfl rfl ?_
  refine rl_arg (kk := 1) hL hi (by decide) (by decide) 1 6 rfl rfl dL_law_2072 rfl dL_law_2073 rfl dL_law_2075 rfl dL_law_2076 rfl dL_law_2077 rfl ?_
  refine rl_arg (kk := 2) hL hi (by decide) (by decide) 1 6 rfl rfl dL_law_2078 rfl dL_law_2079 rfl dL_law_2081 rfl dL_law_2082 rfl dL_law_2083 rfl ?_
  refine rl_callV (av := [.int (xs (i + 1)), .int (xs (i + 2))]) (rest := []) (sX12_dateAt (g := g) (ω := ω) hω (mL_dateAt μ (xs (i + 1)) (xs (i + 2))) (xs (i + 1)) (xs (i + 2)) hq2) lw_k_X12_dateAt (rj_lt hω (k := 395) rfl) (rj_sh hω ly_395) rfl rfl hVX12_dateAt ⟨Nat.le_of_ble_eq_true rfl, Nat.le_of_ble_eq_true rfl⟩ rfl rfl (Nat.le_of_ble_eq_true rfl) dL_law_2084 rfl (by omega) ?_
  exact rl_tailI hω (by omega) ht (fun h => (ho h).1) dL_law_2087 rfl dL_law_2089 rfl dL_law_2090 rfl dL_law_2093 rfl dL_law_2095 rfl dL_law_2100 rfl dL_law_2102 rfl rfl dL_law_2105 rfl dL_law_2106 rfl dL_law_2107 rfl dL_law_2108 rfl dL_law_2110 rfl dL_law_2111 rfl dL_law_2112 rfl dL_law_2117 rfl (K _ ω _ (by omega) hω (fun _ _ => rfl) hI2)

set_option maxHeartbeats 4000000 in
set_option maxRecDepth 100000 in
theorem lc_27 {g : rj_G} {hh : List (Nat × Nat × Nat × Nat)} {b L n u i : Nat} {xs : Nat → Int32} {ω : rj_W} {μ : rj_M} (hω : rj_ok ω) (hL : L ≤ 3072) (hi : i + 6 ≤ L) (hn : n ≤ 600) (hu : u ≤ 500000) (I : zi_I n μ μ) (K : rl_K g hh b L xs n u ω i) : rl_R g hh b L xs u ω μ (ll b ω.2.2 i) 2120 [] := by
  have op := fun (c r : rj_M) (h : zi_I n c r) => zu_walk (c := c) (r := r) (a0 := (xs (i + 1))) (a1 := (xs (i + 2))) h
  obtain ⟨hx, hI1, hI2, ht, ho⟩ := zl_A (n := n) (μ := μ) (Ls := ["java/lang/IndexOutOfBoundsException"]) (F := fun c => fX11_walk c (xs (i + 1)) (xs (i + 2))) (M := fun c => c) (R := fun r => mX12_walk r (xs (i + 1)) (xs (i + 2))) (B := fun r => fX12_walk r (xs (i + 1)) (xs (i + 2))) (cv := fun v => v.toInt64) (mL := (mL_walk μ (xs (i + 1)) (xs (i + 2)))) (kk := (fL_walk μ (xs (i + 1)) (xs (i + 2)))) (fun c r h => ⟨(op c r h).1, (op c r h).2.1⟩) (by decide) I rfl rfl
  have hq2 := (op μ _ hI1).2.2
  refine rj_aload_n 1 dL_law_2120 rfl rfl ?_
  refine rl_arg (kk := 1) hL hi (by decide) (by decide) 0 5 rfl rfl dL_law_2121 rfl dL_law_2122 rfl dL_law_2124 rfl dL_law_2125 rfl dL_law_2126 rfl ?_
  refine rl_arg (kk := 2) hL hi (by decide) (by decide) 0 5 rfl rfl dL_law_2127 rfl dL_law_2128 rfl dL_law_2130 rfl dL_law_2131 rfl dL_law_2132 rfl ?_
  refine rj_aload_n 3 dL_law_2133 rfl rfl ?_
  refine rl_callW (av := [.ref (ω.2.2 0), .int (xs (i + 1)), .int (xs (i + 2)), .ref (ω.2.2 438)]) (rest := []) (sL_walk (g := g) (ω := ω) hω μ (xs (i + 1)) (xs (i + 2)) hx) lw_k_L_walk rfl hSL_walk ⟨Nat.le_of_ble_eq_true rfl, Nat.le_of_ble_eq_true rfl⟩ rfl rfl (Nat.le_of_ble_eq_true rfl) dL_law_2134 rfl (by omega) ?_
  refine rj_istore (l' := (6, .int (fL_walk μ (xs (i + 1)) (xs (i + 2)))) :: ll b ω.2.2 i) dL_law_2137 rfl (rj_bl rfl) rfl ?_
  refine rj_aload_n 3 dL_law_2139 rfl rfl ?_
  refine rl_arg (kk := 1) hL hi (by decide) (by decide) 1 6 rfl rfl dL_law_2140 rfl dL_law_2141 rfl dL_law_2143 rfl dL_law_2144 rfl dL_law_2145 rfl ?_
  refine rl_arg (kk := 2) hL hi (by decide) (by decide) 1 6 rfl rfl dL_law_2146 rfl dL_law_2147 rfl dL_law_2149 rfl dL_law_2150 rfl dL_law_2151 rfl ?_
  refine rl_callV (av := [.int (xs (i + 1)), .int (xs (i + 2))]) (rest := []) (sX12_walk (g := g) (ω := ω) hω (mL_walk μ (xs (i + 1)) (xs (i + 2))) (xs (i + 1)) (xs (i + 2)) hq2) lw_k_X12_walk (rj_lt hω (k := 395) rfl) (rj_sh hω ly_395) rfl rfl hVX12_walk ⟨Nat.le_of_ble_eq_true rfl, Nat.le_of_ble_eq_true rfl⟩ rfl rfl (Nat.le_of_ble_eq_true rfl) dL_law_2152 rfl (by omega) ?_
  exact rl_tailI hω (by omega) ht (fun h => (ho h).1) dL_law_2155 rfl dL_law_2157 rfl dL_law_2158 rfl dL_law_2161 rfl dL_law_2163 rfl dL_law_2168 rfl dL_law_2170 rfl rfl dL_law_2173 rfl dL_law_2174 rfl dL_law_2175 rfl dL_law_2176 rfl dL_law_2178 rfl dL_law_2179 rfl dL_law_2180 rfl dL_law_2185 rfl (K _ ω _ (by omega) hω (fun _ _ => rfl) hI2)

set_option maxHeartbeats 4000000 in
set_option maxRecDepth 100000 in
theorem lc_28 {g : rj_G} {hh : List (Nat × Nat × Nat × Nat)} {b L n u i : Nat} {xs : Nat → Int32} {ω : rj_W} {μ : rj_M} (hω : rj_ok ω) (hL : L ≤ 3072) (hi : i + 6 ≤ L) (hn : n ≤ 600) (hu : u ≤ 500000) (I : zi_I n μ μ) (K : rl_K g hh b L xs n u ω i) : rl_R g hh b L xs u ω μ (ll b ω.2.2 i) 2188 [] := by
  have op := fun (c r : rj_M) (h : zi_I n c r) => zu_actAt (c := c) (r := r) (a0 := (xs (i + 1))) (a1 := (xs (i + 2))) h
  obtain ⟨hx, hI1, hI2, ht, ho⟩ := zl_A (n := n) (μ := μ) (Ls := ["java/lang/IndexOutOfBoundsException", "java/lang/IllegalArgumentException"]) (F := fun c => fX11_actAt c (xs (i + 1)) (xs (i + 2))) (M := fun c => mX11_actAt c (xs (i + 1)) (xs (i + 2))) (R := fun r => mX12_actAt r (xs (i + 1)) (xs (i + 2))) (B := fun r => fX12_actAt r (xs (i + 1)) (xs (i + 2))) (cv := fun v => v.toInt64) (mL := (mL_actAt μ (xs (i + 1)) (xs (i + 2)))) (kk := (fL_actAt μ (xs (i + 1)) (xs (i + 2)))) (fun c r h => ⟨(op c r h).1, (op c r h).2.1⟩) (by decide) I rfl rfl
  have hq1 := (op μ μ I).2.2.1
  have hq2 := (op μ _ hI1).2.2.2
  refine rj_aload_n 1 dL_law_2188 rfl rfl ?_
  refine rl_arg (kk := 1) hL hi (by decide) (by decide) 0 5 rfl rfl dL_law_2189 rfl dL_law_2190 rfl dL_law_2192 rfl dL_law_2193 rfl dL_law_2194 rfl ?_
  refine rl_arg (kk := 2) hL hi (by decide) (by decide) 0 5 rfl rfl dL_law_2195 rfl dL_law_2196 rfl dL_law_2198 rfl dL_law_2199 rfl dL_law_2200 rfl ?_
  refine rj_aload_n 3 dL_law_2201 rfl rfl ?_
  refine rl_callW (av := [.ref (ω.2.2 0), .int (xs (i + 1)), .int (xs (i + 2)), .ref (ω.2.2 438)]) (rest := []) (sL_actAt (g := g) (ω := ω) hω μ (xs (i + 1)) (xs (i + 2)) hq1 hx) lw_k_L_actAt rfl hSL_actAt ⟨Nat.le_of_ble_eq_true rfl, Nat.le_of_ble_eq_true rfl⟩ rfl rfl (Nat.le_of_ble_eq_true rfl) dL_law_2202 rfl (by omega) ?_
  refine rj_istore (l' := (6, .int (fL_actAt μ (xs (i + 1)) (xs (i + 2)))) :: ll b ω.2.2 i) dL_law_2205 rfl (rj_bl rfl) rfl ?_
  refine rj_aload_n 3 dL_law_2207 rfl rfl ?_
  refine rl_arg (kk := 1) hL hi (by decide) (by decide) 1 6 rfl rfl dL_law_2208 rfl dL_law_2209 rfl dL_law_2211 rfl dL_law_2212 rfl dL_law_2213 rfl ?_
  refine rl_arg (kk := 2) hL hi (by decide) (by decide) 1 6 rfl rfl dL_law_2214 rfl dL_law_2215 rfl dL_law_2217 rfl dL_law_2218 rfl dL_law_2219 rfl ?_
  refine rl_callV (av := [.int (xs (i + 1)), .int (xs (i + 2))]) (rest := []) (sX12_actAt (g := g) (ω := ω) hω (mL_actAt μ (xs (i + 1)) (xs (i + 2))) (xs (i + 1)) (xs (i + 2)) hq2) lw_k_X12_actAt (rj_lt hω (k := 395) rfl) (rj_sh hω ly_395) rfl rfl hVX12_actAt ⟨Nat.le_of_ble_eq_true rfl, Nat.le_of_ble_eq_true rfl⟩ rfl rfl (Nat.le_of_ble_eq_true rfl) dL_law_2220 rfl (by omega) ?_
  exact rl_tailI hω (by omega) ht (fun h => (ho h).1) dL_law_2223 rfl dL_law_2225 rfl dL_law_2226 rfl dL_law_2229 rfl dL_law_2231 rfl dL_law_2236 rfl dL_law_2238 rfl rfl dL_law_2241 rfl dL_law_2242 rfl dL_law_2243 rfl dL_law_2244 rfl dL_law_2246 rfl dL_law_2247 rfl dL_law_2248 rfl dL_law_2253 rfl (K _ ω _ (by omega) hω (fun _ _ => rfl) hI2)

set_option maxHeartbeats 4000000 in
set_option maxRecDepth 100000 in
theorem lc_29 {g : rj_G} {hh : List (Nat × Nat × Nat × Nat)} {b L n u i : Nat} {xs : Nat → Int32} {ω : rj_W} {μ : rj_M} (hω : rj_ok ω) (hL : L ≤ 3072) (hi : i + 6 ≤ L) (hn : n ≤ 600) (hu : u ≤ 500000) (I : zi_I n μ μ) (K : rl_K g hh b L xs n u ω i) : rl_R g hh b L xs u ω μ (ll b ω.2.2 i) 2256 [] := by
  have op := fun (c r : rj_M) (h : zi_I n c r) => zu_acts (c := c) (r := r) h
  obtain ⟨hI1, hI2, he⟩ := zl_B (n := n) (μ := μ) (M := fun c => c) (R := fun r => mX12_acts r) (Fv := fun c => fX11_acts c ) (Bv := fun r => fX12_acts r) (fun c r h => ⟨(op c r h).1, (op c r h).2.2⟩) I
  refine rj_aload_n 1 dL_law_2256 rfl rfl ?_
  refine rl_callV (av := []) (rest := []) (sX11_acts (g := g) (ω := ω) hω μ ) lw_k_X11_acts (rj_lt hω (k := 0) rfl) (rj_sh hω ly_0) rfl rfl hVX11_acts ⟨Nat.le_of_ble_eq_true rfl, Nat.le_of_ble_eq_true rfl⟩ rfl rfl (Nat.le_of_ble_eq_true rfl) dL_law_2257 rfl (by omega) ?_
  refine rj_aload_n 2 dL_law_2260 rfl rfl ?_
  refine rl_callV (av := []) (rest := [.int (fX11_acts μ)]) (sX12_acts (g := g) (ω := ω) hω μ ) lw_k_X12_acts (rj_lt hω (k := 395) rfl) (rj_sh hω ly_395) rfl rfl hVX12_acts ⟨Nat.le_of_ble_eq_true rfl, Nat.le_of_ble_eq_true rfl⟩ rfl rfl (Nat.le_of_ble_eq_true rfl) dL_law_2261 rfl (by omega) ?_
  exact rj_icmp_eq dL_law_2264 rfl rfl (fun _ => (K _ ω _ (by omega) hω (fun _ _ => rfl) hI2)) (fun h => absurd he h)

set_option maxHeartbeats 4000000 in
set_option maxRecDepth 100000 in
theorem lc_30 {g : rj_G} {hh : List (Nat × Nat × Nat × Nat)} {b L n u i : Nat} {xs : Nat → Int32} {ω : rj_W} {μ : rj_M} (hω : rj_ok ω) (hL : L ≤ 3072) (hi : i + 6 ≤ L) (hn : n ≤ 600) (hu : u ≤ 500000) (I : zi_I n μ μ) (K : rl_K g hh b L xs n u ω i) : rl_R g hh b L xs u ω μ (ll b ω.2.2 i) 2269 [] := by
  have op := fun (c r : rj_M) (h : zi_I n c r) => zu_firstIn (c := c) (r := r) (a0 := (xs (i + 1))) (a1 := (xs (i + 2))) (a2 := (xs (i + 3))) h
  obtain ⟨hx, hI1, hI2, ht, ho⟩ := zl_A (n := n) (μ := μ) (Ls := ["java/lang/IndexOutOfBoundsException", "java/lang/IllegalArgumentException"]) (F := fun c => fX11_firstIn c (xs (i + 1)) (xs (i + 2)) (xs (i + 3))) (M := fun c => c) (R := fun r => mX12_firstIn r (xs (i + 1)) (xs (i + 2)) (xs (i + 3))) (B := fun r => fX12_firstIn r (xs (i + 1)) (xs (i + 2)) (xs (i + 3))) (cv := fun v => v.toInt64) (mL := (mL_firstIn μ (xs (i + 1)) (xs (i + 2)) (xs (i + 3)))) (kk := (fL_firstIn μ (xs (i + 1)) (xs (i + 2)) (xs (i + 3)))) (fun c r h => ⟨(op c r h).1, (op c r h).2.1⟩) (by decide) I rfl rfl
  have hq2 := (op μ _ hI1).2.2
  refine rj_aload_n 1 dL_law_2269 rfl rfl ?_
  refine rl_arg (kk := 1) hL hi (by decide) (by decide) 0 5 rfl rfl dL_law_2270 rfl dL_law_2271 rfl dL_law_2273 rfl dL_law_2274 rfl dL_law_2275 rfl ?_
  refine rl_arg (kk := 2) hL hi (by decide) (by decide) 0 5 rfl rfl dL_law_2276 rfl dL_law_2277 rfl dL_law_2279 rfl dL_law_2280 rfl dL_law_2281 rfl ?_
  refine rl_arg (kk := 3) hL hi (by decide) (by decide) 0 5 rfl rfl dL_law_2282 rfl dL_law_2283 rfl dL_law_2285 rfl dL_law_2286 rfl dL_law_2287 rfl ?_
  refine rj_aload_n 3 dL_law_2288 rfl rfl ?_
  refine rl_callW (av := [.ref (ω.2.2 0), .int (xs (i + 1)), .int (xs (i + 2)), .int (xs (i + 3)), .ref (ω.2.2 438)]) (rest := []) (sL_firstIn (g := g) (ω := ω) hω μ (xs (i + 1)) (xs (i + 2)) (xs (i + 3)) hx) lw_k_L_firstIn rfl hSL_firstIn ⟨Nat.le_of_ble_eq_true rfl, Nat.le_of_ble_eq_true rfl⟩ rfl rfl (Nat.le_of_ble_eq_true rfl) dL_law_2289 rfl (by omega) ?_
  refine rj_istore (l' := (6, .int (fL_firstIn μ (xs (i + 1)) (xs (i + 2)) (xs (i + 3)))) :: ll b ω.2.2 i) dL_law_2292 rfl (rj_bl rfl) rfl ?_
  refine rj_aload_n 3 dL_law_2294 rfl rfl ?_
  refine rl_arg (kk := 1) hL hi (by decide) (by decide) 1 6 rfl rfl dL_law_2295 rfl dL_law_2296 rfl dL_law_2298 rfl dL_law_2299 rfl dL_law_2300 rfl ?_
  refine rl_arg (kk := 2) hL hi (by decide) (by decide) 1 6 rfl rfl dL_law_2301 rfl dL_law_2302 rfl dL_law_2304 rfl dL_law_2305 rfl dL_law_2306 rfl ?_
  refine rl_arg (kk := 3) hL hi (by decide) (by decide) 1 6 rfl rfl dL_law_2307 rfl dL_law_2308 rfl dL_law_2310 rfl dL_law_2311 rfl dL_law_2312 rfl ?_
  refine rl_callV (av := [.int (xs (i + 1)), .int (xs (i + 2)), .int (xs (i + 3))]) (rest := []) (sX12_firstIn (g := g) (ω := ω) hω (mL_firstIn μ (xs (i + 1)) (xs (i + 2)) (xs (i + 3))) (xs (i + 1)) (xs (i + 2)) (xs (i + 3)) hq2) lw_k_X12_firstIn (rj_lt hω (k := 395) rfl) (rj_sh hω ly_395) rfl rfl hVX12_firstIn ⟨Nat.le_of_ble_eq_true rfl, Nat.le_of_ble_eq_true rfl⟩ rfl rfl (Nat.le_of_ble_eq_true rfl) dL_law_2313 rfl (by omega) ?_
  exact rl_tailI hω (by omega) ht (fun h => (ho h).1) dL_law_2316 rfl dL_law_2318 rfl dL_law_2319 rfl dL_law_2322 rfl dL_law_2324 rfl dL_law_2329 rfl dL_law_2331 rfl rfl dL_law_2334 rfl dL_law_2335 rfl dL_law_2336 rfl dL_law_2337 rfl dL_law_2339 rfl dL_law_2340 rfl dL_law_2341 rfl dL_law_2346 rfl (K _ ω _ (by omega) hω (fun _ _ => rfl) hI2)

set_option maxHeartbeats 4000000 in
set_option maxRecDepth 100000 in
theorem lc_31 {g : rj_G} {hh : List (Nat × Nat × Nat × Nat)} {b L n u i : Nat} {xs : Nat → Int32} {ω : rj_W} {μ : rj_M} (hω : rj_ok ω) (hL : L ≤ 3072) (hi : i + 6 ≤ L) (hn : n ≤ 600) (hu : u ≤ 500000) (I : zi_I n μ μ) (K : rl_K g hh b L xs n u ω i) : rl_R g hh b L xs u ω μ (ll b ω.2.2 i) 2349 [] := by
  have op := fun (c r : rj_M) (h : zi_I n c r) => zu_clash (c := c) (r := r) (a0 := (xs (i + 1))) (a1 := (xs (i + 2))) h
  obtain ⟨hx, hI1, hI2, ht, ho⟩ := zl_A (n := n) (μ := μ) (Ls := ["java/lang/IndexOutOfBoundsException", "java/lang/IllegalArgumentException"]) (F := fun c => fX11_clash c (xs (i + 1)) (xs (i + 2))) (M := fun c => c) (R := fun r => mX12_clash r (xs (i + 1)) (xs (i + 2))) (B := fun r => fX12_clash r (xs (i + 1)) (xs (i + 2))) (cv := fun v => if v = 0 then 0 else 1) (mL := (mL_clash μ (xs (i + 1)) (xs (i + 2)))) (kk := (fL_clash μ (xs (i + 1)) (xs (i + 2)))) (fun c r h => ⟨(op c r h).1, (op c r h).2.1⟩) (by decide) I rfl rfl
  refine rj_aload_n 1 dL_law_2349 rfl rfl ?_
  refine rl_arg (kk := 1) hL hi (by decide) (by decide) 0 5 rfl rfl dL_law_2350 rfl dL_law_2351 rfl dL_law_2353 rfl dL_law_2354 rfl dL_law_2355 rfl ?_
  refine rl_arg (kk := 2) hL hi (by decide) (by decide) 0 5 rfl rfl dL_law_2356 rfl dL_law_2357 rfl dL_law_2359 rfl dL_law_2360 rfl dL_law_2361 rfl ?_
  refine rj_aload_n 3 dL_law_2362 rfl rfl ?_
  refine rl_callW (av := [.ref (ω.2.2 0), .int (xs (i + 1)), .int (xs (i + 2)), .ref (ω.2.2 438)]) (rest := []) (sL_clash (g := g) (ω := ω) hω μ (xs (i + 1)) (xs (i + 2)) hx) lw_k_L_clash rfl hSL_clash ⟨Nat.le_of_ble_eq_true rfl, Nat.le_of_ble_eq_true rfl⟩ rfl rfl (Nat.le_of_ble_eq_true rfl) dL_law_2363 rfl (by omega) ?_
  refine rj_istore (l' := (6, .int (fL_clash μ (xs (i + 1)) (xs (i + 2)))) :: ll b ω.2.2 i) dL_law_2366 rfl (rj_bl rfl) rfl ?_
  refine rj_aload_n 3 dL_law_2368 rfl rfl ?_
  refine rl_arg (kk := 1) hL hi (by decide) (by decide) 1 6 rfl rfl dL_law_2369 rfl dL_law_2370 rfl dL_law_2372 rfl dL_law_2373 rfl dL_law_2374 rfl ?_
  refine rl_arg (kk := 2) hL hi (by decide) (by decide) 1 6 rfl rfl dL_law_2375 rfl dL_law_2376 rfl dL_law_2378 rfl dL_law_2379 rfl dL_law_2380 rfl ?_
  refine rl_callV (av := [.int (xs (i + 1)), .int (xs (i + 2))]) (rest := []) (sX12_clash (g := g) (ω := ω) hω (mL_clash μ (xs (i + 1)) (xs (i + 2))) (xs (i + 1)) (xs (i + 2))) lw_k_X12_clash (rj_lt hω (k := 395) rfl) (rj_sh hω ly_395) rfl rfl hVX12_clash ⟨Nat.le_of_ble_eq_true rfl, Nat.le_of_ble_eq_true rfl⟩ rfl rfl (Nat.le_of_ble_eq_true rfl) dL_law_2381 rfl (by omega) ?_
  exact rl_tailZ hω (by omega) ht (fun h => (ho h).1) dL_law_2384 rfl dL_law_2386 rfl dL_law_2387 rfl dL_law_2390 rfl dL_law_2392 rfl dL_law_2397 rfl dL_law_2399 rfl rfl dL_law_2402 rfl dL_law_2403 rfl dL_law_2404 rfl dL_law_2405 rfl dL_law_2407 rfl rfl dL_law_2410 rfl dL_law_2411 rfl dL_law_2414 rfl dL_law_2415 rfl dL_law_2416 rfl dL_law_2421 rfl (K _ ω _ (by omega) hω (fun _ _ => rfl) hI2)
