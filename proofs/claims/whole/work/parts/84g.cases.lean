set_option maxHeartbeats 4000000 in
set_option maxRecDepth 100000 in
theorem lc_48 {g : rj_G} {hh : List (Nat × Nat × Nat × Nat)} {b L n u i : Nat} {xs : Nat → Int32} {ω : rj_W} {μ : rj_M} (hω : rj_ok ω) (hL : L ≤ 3072) (hi : i + 6 ≤ L) (hn : n ≤ 600) (hu : u ≤ 500000) (I : zi_I n μ μ) (K : rl_K g hh b L xs n u ω i) : rl_R g hh b L xs u ω μ (ll b ω.2.2 i) 3120 [] := by
  have op := fun (c r : rj_M) (h : zi_I n c r) => zu_isOn (c := c) (r := r) (a0 := (xs (i + 1))) h
  obtain ⟨hx, hI1, hI2, ht, ho⟩ := zl_A (n := n) (μ := μ) (Ls := ["java/lang/IndexOutOfBoundsException", "java/util/NoSuchElementException"]) (F := fun c => fX11_isOn c (xs (i + 1))) (M := fun c => mX11_isOn c (xs (i + 1))) (R := fun r => mX12_isOn r (xs (i + 1))) (B := fun r => fX12_isOn r (xs (i + 1))) (cv := fun v => v.toInt64) (mL := (mL_isOn μ (xs (i + 1)))) (kk := (fL_isOn μ (xs (i + 1)))) (fun c r h => ⟨(op c r h).1, (op c r h).2.1⟩) (by decide) I rfl rfl
  have hq2 := (op μ _ hI1).2.2
  refine rj_aload_n 1 dL_law_3120 rfl rfl ?_
  refine rl_arg (kk := 1) hL hi (by decide) (by decide) 0 5 rfl rfl dL_law_3121 rfl dL_law_3122 rfl dL_law_3124 rfl dL_law_3125 rfl dL_law_3126 rfl ?_
  refine rj_aload_n 3 dL_law_3127 rfl rfl ?_
  refine rl_callW (av := [.ref (ω.2.2 0), .int (xs (i + 1)), .ref (ω.2.2 438)]) (rest := []) (sL_isOn (g := g) (ω := ω) hω μ (xs (i + 1)) hx) lw_k_L_isOn rfl hSL_isOn ⟨Nat.le_of_ble_eq_true rfl, Nat.le_of_ble_eq_true rfl⟩ rfl rfl (Nat.le_of_ble_eq_true rfl) dL_law_3128 rfl (by omega) ?_
  refine rj_istore (l' := (6, .int (fL_isOn μ (xs (i + 1)))) :: ll b ω.2.2 i) dL_law_3131 rfl (rj_bl rfl) rfl ?_
  refine rj_aload_n 3 dL_law_3133 rfl rfl ?_
  refine rl_arg (kk := 1) hL hi (by decide) (by decide) 1 6 rfl rfl dL_law_3134 rfl dL_law_3135 rfl dL_law_3137 rfl dL_law_3138 rfl dL_law_3139 rfl ?_
  refine rl_callV (av := [.int (xs (i + 1))]) (rest := []) (sX12_isOn (g := g) (ω := ω) hω (mL_isOn μ (xs (i + 1))) (xs (i + 1)) hq2) lw_k_X12_isOn (rj_lt hω (k := 395) rfl) (rj_sh hω ly_395) rfl rfl hVX12_isOn ⟨Nat.le_of_ble_eq_true rfl, Nat.le_of_ble_eq_true rfl⟩ rfl rfl (Nat.le_of_ble_eq_true rfl) dL_law_3140 rfl (by omega) ?_
  exact rl_tailI hω (by omega) ht (fun h => (ho h).1) dL_law_3143 rfl dL_law_3145 rfl dL_law_3146 rfl dL_law_3149 rfl dL_law_3151 rfl dL_law_3156 rfl dL_law_3158 rfl rfl dL_law_3161 rfl dL_law_3162 rfl dL_law_3163 rfl dL_law_3164 rfl dL_law_3166 rfl dL_law_3167 rfl dL_law_3168 rfl dL_law_3173 rfl (K _ ω _ (by omega) hω (fun _ _ => rfl) hI2)

set_option maxHeartbeats 4000000 in
set_option maxRecDepth 100000 in
theorem lc_49 {g : rj_G} {hh : List (Nat × Nat × Nat × Nat)} {b L n u i : Nat} {xs : Nat → Int32} {ω : rj_W} {μ : rj_M} (hω : rj_ok ω) (hL : L ≤ 3072) (hi : i + 6 ≤ L) (hn : n ≤ 600) (hu : u ≤ 500000) (I : zi_I n μ μ) (K : rl_K g hh b L xs n u ω i) : rl_R g hh b L xs u ω μ (ll b ω.2.2 i) 3176 [] := by
  have op := fun (c r : rj_M) (h : zi_I n c r) => zo_rain (c := c) (r := r) (a0 := (xs (i + 1))) (a1 := (xs (i + 2))) h
  obtain ⟨hx, hI1, hI2, ht, ho⟩ := zl_A (n := n) (μ := μ) (Ls := ["java/lang/IllegalArgumentException", "java/lang/IllegalStateException"]) (F := fun c => fX11_rain c (xs (i + 1)) (xs (i + 2))) (M := fun c => mX11_rain c (xs (i + 1)) (xs (i + 2))) (R := fun r => mX12_rain r (xs (i + 1)) (xs (i + 2))) (B := fun r => fX12_rain r (xs (i + 1)) (xs (i + 2))) (cv := fun v => v.toInt64) (mL := (mL_rain μ (xs (i + 1)) (xs (i + 2)))) (kk := (fL_rain μ (xs (i + 1)) (xs (i + 2)))) (fun c r h => ⟨(op c r h).1, (op c r h).2.1⟩) (by decide) I rfl rfl
  have hq1 := (op μ μ I).2.2.1
  have hq2 := (op μ _ hI1).2.2.2
  refine rj_aload_n 1 dL_law_3176 rfl rfl ?_
  refine rl_arg (kk := 1) hL hi (by decide) (by decide) 0 5 rfl rfl dL_law_3177 rfl dL_law_3178 rfl dL_law_3180 rfl dL_law_3181 rfl dL_law_3182 rfl ?_
  refine rl_arg (kk := 2) hL hi (by decide) (by decide) 0 5 rfl rfl dL_law_3183 rfl dL_law_3184 rfl dL_law_3186 rfl dL_law_3187 rfl dL_law_3188 rfl ?_
  refine rj_aload_n 3 dL_law_3189 rfl rfl ?_
  refine rl_callW (av := [.ref (ω.2.2 0), .int (xs (i + 1)), .int (xs (i + 2)), .ref (ω.2.2 438)]) (rest := []) (sL_rain (g := g) (ω := ω) hω μ (xs (i + 1)) (xs (i + 2)) hq1 hx) lw_k_L_rain rfl hSL_rain ⟨Nat.le_of_ble_eq_true rfl, Nat.le_of_ble_eq_true rfl⟩ rfl rfl (Nat.le_of_ble_eq_true rfl) dL_law_3190 rfl (by omega) ?_
  refine rj_istore (l' := (6, .int (fL_rain μ (xs (i + 1)) (xs (i + 2)))) :: ll b ω.2.2 i) dL_law_3193 rfl (rj_bl rfl) rfl ?_
  refine rj_aload_n 3 dL_law_3195 rfl rfl ?_
  refine rl_arg (kk := 1) hL hi (by decide) (by decide) 1 6 rfl rfl dL_law_3196 rfl dL_law_3197 rfl dL_law_3199 rfl dL_law_3200 rfl dL_law_3201 rfl ?_
  refine rl_arg (kk := 2) hL hi (by decide) (by decide) 1 6 rfl rfl dL_law_3202 rfl dL_law_3203 rfl dL_law_3205 rfl dL_law_3206 rfl dL_law_3207 rfl ?_
  refine rl_callV (av := [.int (xs (i + 1)), .int (xs (i + 2))]) (rest := []) (sX12_rain (g := g) (ω := ω) hω (mL_rain μ (xs (i + 1)) (xs (i + 2))) (xs (i + 1)) (xs (i + 2)) hq2) lw_k_X12_rain (rj_lt hω (k := 395) rfl) (rj_sh hω ly_395) rfl rfl hVX12_rain ⟨Nat.le_of_ble_eq_true rfl, Nat.le_of_ble_eq_true rfl⟩ rfl rfl (Nat.le_of_ble_eq_true rfl) dL_law_3208 rfl (by omega) ?_
  exact rl_tailI hω (by omega) ht (fun h => (ho h).1) dL_law_3211 rfl dL_law_3213 rfl dL_law_3214 rfl dL_law_3217 rfl dL_law_3219 rfl dL_law_3224 rfl dL_law_3226 rfl rfl dL_law_3229 rfl dL_law_3230 rfl dL_law_3231 rfl dL_law_3232 rfl dL_law_3234 rfl dL_law_3235 rfl dL_law_3236 rfl dL_law_3241 rfl (K _ ω _ (by omega) hω (fun _ _ => rfl) hI2)

set_option maxHeartbeats 4000000 in
set_option maxRecDepth 100000 in
theorem lc_50 {g : rj_G} {hh : List (Nat × Nat × Nat × Nat)} {b L n u i : Nat} {xs : Nat → Int32} {ω : rj_W} {μ : rj_M} (hω : rj_ok ω) (hL : L ≤ 3072) (hi : i + 6 ≤ L) (hn : n ≤ 600) (hu : u ≤ 500000) (I : zi_I n μ μ) (K : rl_K g hh b L xs n u ω i) : rl_R g hh b L xs u ω μ (ll b ω.2.2 i) 3244 [] := by
  have op := fun (c r : rj_M) (h : zi_I n c r) => zu_movedTo (c := c) (r := r) (a0 := (xs (i + 1))) h
  obtain ⟨hx, hI1, hI2, ht, ho⟩ := zl_A (n := n) (μ := μ) (Ls := ["java/lang/IndexOutOfBoundsException"]) (F := fun c => fX11_movedTo c (xs (i + 1))) (M := fun c => c) (R := fun r => mX12_movedTo r (xs (i + 1))) (B := fun r => fX12_movedTo r (xs (i + 1))) (cv := fun v => v.toInt64) (mL := (mL_movedTo μ (xs (i + 1)))) (kk := (fL_movedTo μ (xs (i + 1)))) (fun c r h => ⟨(op c r h).1, (op c r h).2.1⟩) (by decide) I rfl rfl
  have hq2 := (op μ _ hI1).2.2
  refine rj_aload_n 1 dL_law_3244 rfl rfl ?_
  refine rl_arg (kk := 1) hL hi (by decide) (by decide) 0 5 rfl rfl dL_law_3245 rfl dL_law_3246 rfl dL_law_3248 rfl dL_law_3249 rfl dL_law_3250 rfl ?_
  refine rj_aload_n 3 dL_law_3251 rfl rfl ?_
  refine rl_callW (av := [.ref (ω.2.2 0), .int (xs (i + 1)), .ref (ω.2.2 438)]) (rest := []) (sL_movedTo (g := g) (ω := ω) hω μ (xs (i + 1)) hx) lw_k_L_movedTo rfl hSL_movedTo ⟨Nat.le_of_ble_eq_true rfl, Nat.le_of_ble_eq_true rfl⟩ rfl rfl (Nat.le_of_ble_eq_true rfl) dL_law_3252 rfl (by omega) ?_
  refine rj_istore (l' := (6, .int (fL_movedTo μ (xs (i + 1)))) :: ll b ω.2.2 i) dL_law_3255 rfl (rj_bl rfl) rfl ?_
  refine rj_aload_n 3 dL_law_3257 rfl rfl ?_
  refine rl_arg (kk := 1) hL hi (by decide) (by decide) 1 6 rfl rfl dL_law_3258 rfl dL_law_3259 rfl dL_law_3261 rfl dL_law_3262 rfl dL_law_3263 rfl ?_
  refine rl_callV (av := [.int (xs (i + 1))]) (rest := []) (sX12_movedTo (g := g) (ω := ω) hω (mL_movedTo μ (xs (i + 1))) (xs (i + 1)) hq2) lw_k_X12_movedTo (rj_lt hω (k := 395) rfl) (rj_sh hω ly_395) rfl rfl hVX12_movedTo ⟨Nat.le_of_ble_eq_true rfl, Nat.le_of_ble_eq_true rfl⟩ rfl rfl (Nat.le_of_ble_eq_true rfl) dL_law_3264 rfl (by omega) ?_
  exact rl_tailI hω (by omega) ht (fun h => (ho h).1) dL_law_3267 rfl dL_law_3269 rfl dL_law_3270 rfl dL_law_3273 rfl dL_law_3275 rfl dL_law_3280 rfl dL_law_3282 rfl rfl dL_law_3285 rfl dL_law_3286 rfl dL_law_3287 rfl dL_law_3288 rfl dL_law_3290 rfl dL_law_3291 rfl dL_law_3292 rfl dL_law_3297 rfl (K _ ω _ (by omega) hω (fun _ _ => rfl) hI2)

set_option maxHeartbeats 4000000 in
set_option maxRecDepth 100000 in
theorem lc_51 {g : rj_G} {hh : List (Nat × Nat × Nat × Nat)} {b L n u i : Nat} {xs : Nat → Int32} {ω : rj_W} {μ : rj_M} (hω : rj_ok ω) (hL : L ≤ 3072) (hi : i + 6 ≤ L) (hn : n ≤ 600) (hu : u ≤ 500000) (I : zi_I n μ μ) (K : rl_K g hh b L xs n u ω i) : rl_R g hh b L xs u ω μ (ll b ω.2.2 i) 3300 [] := by
  have op := fun (c r : rj_M) (h : zi_I n c r) => zu_ticketAt (c := c) (r := r) (a0 := (xs (i + 1))) (a1 := (xs (i + 2))) h
  obtain ⟨hx, hI1, hI2, ht, ho⟩ := zl_A (n := n) (μ := μ) (Ls := ["java/lang/IndexOutOfBoundsException"]) (F := fun c => fX11_ticketAt c (xs (i + 1)) (xs (i + 2))) (M := fun c => c) (R := fun r => mX12_ticketAt r (xs (i + 1)) (xs (i + 2))) (B := fun r => fX12_ticketAt r (xs (i + 1)) (xs (i + 2))) (cv := fun v => v.toInt64) (mL := (mL_ticketAt μ (xs (i + 1)) (xs (i + 2)))) (kk := (fL_ticketAt μ (xs (i + 1)) (xs (i + 2)))) (fun c r h => ⟨(op c r h).1, (op c r h).2⟩) (by decide) I rfl rfl
  refine rj_aload_n 1 dL_law_3300 rfl rfl ?_
  refine rl_arg (kk := 1) hL hi (by decide) (by decide) 0 5 rfl rfl dL_law_3301 rfl dL_law_3302 rfl dL_law_3304 rfl dL_law_3305 rfl dL_law_3306 rfl ?_
  refine rl_arg (kk := 2) hL hi (by decide) (by decide) 0 5 rfl rfl dL_law_3307 rfl dL_law_3308 rfl dL_law_3310 rfl dL_law_3311 rfl dL_law_3312 rfl ?_
  refine rj_aload_n 3 dL_law_3313 rfl rfl ?_
  refine rl_callW (av := [.ref (ω.2.2 0), .int (xs (i + 1)), .int (xs (i + 2)), .ref (ω.2.2 438)]) (rest := []) (sL_ticketAt (g := g) (ω := ω) hω μ (xs (i + 1)) (xs (i + 2)) hx) lw_k_L_ticketAt rfl hSL_ticketAt ⟨Nat.le_of_ble_eq_true rfl, Nat.le_of_ble_eq_true rfl⟩ rfl rfl (Nat.le_of_ble_eq_true rfl) dL_law_3314 rfl (by omega) ?_
  refine rj_istore (l' := (6, .int (fL_ticketAt μ (xs (i + 1)) (xs (i + 2)))) :: ll b ω.2.2 i) dL_law_3317 rfl (rj_bl rfl) rfl ?_
  refine rj_aload_n 3 dL_law_3319 rfl rfl ?_
  refine rl_arg (kk := 1) hL hi (by decide) (by decide) 1 6 rfl rfl dL_law_3320 rfl dL_law_3321 rfl dL_law_3323 rfl dL_law_3324 rfl dL_law_3325 rfl ?_
  refine rl_arg (kk := 2) hL hi (by decide) (by decide) 1 6 rfl rfl dL_law_3326 rfl dL_law_3327 rfl dL_law_3329 rfl dL_law_3330 rfl dL_law_3331 rfl ?_
  refine rl_callV (av := [.int (xs (i + 1)), .int (xs (i + 2))]) (rest := []) (sX12_ticketAt (g := g) (ω := ω) hω (mL_ticketAt μ (xs (i + 1)) (xs (i + 2))) (xs (i + 1)) (xs (i + 2))) lw_k_X12_ticketAt (rj_lt hω (k := 395) rfl) (rj_sh hω ly_395) rfl rfl hVX12_ticketAt ⟨Nat.le_of_ble_eq_true rfl, Nat.le_of_ble_eq_true rfl⟩ rfl rfl (Nat.le_of_ble_eq_true rfl) dL_law_3332 rfl (by omega) ?_
  exact rl_tailI hω (by omega) ht (fun h => (ho h).1) dL_law_3335 rfl dL_law_3337 rfl dL_law_3338 rfl dL_law_3341 rfl dL_law_3343 rfl dL_law_3348 rfl dL_law_3350 rfl rfl dL_law_3353 rfl dL_law_3354 rfl dL_law_3355 rfl dL_law_3356 rfl dL_law_3358 rfl dL_law_3359 rfl dL_law_3360 rfl dL_law_3365 rfl (K _ ω _ (by omega) hω (fun _ _ => rfl) hI2)

set_option maxHeartbeats 4000000 in
set_option maxRecDepth 100000 in
theorem lc_52 {g : rj_G} {hh : List (Nat × Nat × Nat × Nat)} {b L n u i : Nat} {xs : Nat → Int32} {ω : rj_W} {μ : rj_M} (hω : rj_ok ω) (hL : L ≤ 3072) (hi : i + 6 ≤ L) (hn : n ≤ 600) (hu : u ≤ 500000) (I : zi_I n μ μ) (K : rl_K g hh b L xs n u ω i) : rl_R g hh b L xs u ω μ (ll b ω.2.2 i) 3368 [] := by
  have op := fun (c r : rj_M) (h : zi_I n c r) => zu_balance (c := c) (r := r) (a0 := (xs (i + 1))) (a1 := (xs (i + 2))) (by omega) h
  obtain ⟨hx, hI1, hI2, ht, ho⟩ := zl_A (n := n) (μ := μ) (Ls := ["java/lang/IllegalArgumentException", "java/lang/IndexOutOfBoundsException"]) (F := fun c => fX11_balance c (xs (i + 1)) (xs (i + 2))) (M := fun c => c) (R := fun r => mX12_balance r (xs (i + 1)) (xs (i + 2))) (B := fun r => fX12_balance r (xs (i + 1)) (xs (i + 2))) (cv := fun v => v) (mL := (mL_balance μ (xs (i + 1)) (xs (i + 2)))) (kk := (fL_balance μ (xs (i + 1)) (xs (i + 2)))) (fun c r h => ⟨(op c r h).1, (op c r h).2.1⟩) (by decide) I rfl rfl
  have hq2 := (op μ _ hI1).2.2
  refine rj_aload_n 1 dL_law_3368 rfl rfl ?_
  refine rl_arg (kk := 1) hL hi (by decide) (by decide) 0 5 rfl rfl dL_law_3369 rfl dL_law_3370 rfl dL_law_3372 rfl dL_law_3373 rfl dL_law_3374 rfl ?_
  refine rl_arg (kk := 2) hL hi (by decide) (by decide) 0 5 rfl rfl dL_law_3375 rfl dL_law_3376 rfl dL_law_3378 rfl dL_law_3379 rfl dL_law_3380 rfl ?_
  refine rj_aload_n 3 dL_law_3381 rfl rfl ?_
  refine rl_callW (av := [.ref (ω.2.2 0), .int (xs (i + 1)), .int (xs (i + 2)), .ref (ω.2.2 438)]) (rest := []) (sL_balance (g := g) (ω := ω) hω μ (xs (i + 1)) (xs (i + 2)) hx) lw_k_L_balance rfl hSL_balance ⟨Nat.le_of_ble_eq_true rfl, Nat.le_of_ble_eq_true rfl⟩ rfl rfl (Nat.le_of_ble_eq_true rfl) dL_law_3382 rfl (by omega) ?_
  refine rj_istore (l' := (6, .int (fL_balance μ (xs (i + 1)) (xs (i + 2)))) :: ll b ω.2.2 i) dL_law_3385 rfl (rj_bl rfl) rfl ?_
  refine rj_aload_n 3 dL_law_3387 rfl rfl ?_
  refine rl_arg (kk := 1) hL hi (by decide) (by decide) 1 6 rfl rfl dL_law_3388 rfl dL_law_3389 rfl dL_law_3391 rfl dL_law_3392 rfl dL_law_3393 rfl ?_
  refine rl_arg (kk := 2) hL hi (by decide) (by decide) 1 6 rfl rfl dL_law_3394 rfl dL_law_3395 rfl dL_law_3397 rfl dL_law_3398 rfl dL_law_3399 rfl ?_
  refine rl_callV (av := [.int (xs (i + 1)), .int (xs (i + 2))]) (rest := []) (sX12_balance (g := g) (ω := ω) hω (mL_balance μ (xs (i + 1)) (xs (i + 2))) (xs (i + 1)) (xs (i + 2)) hq2) lw_k_X12_balance (rj_lt hω (k := 395) rfl) (rj_sh hω ly_395) rfl rfl hVX12_balance ⟨Nat.le_of_ble_eq_true rfl, Nat.le_of_ble_eq_true rfl⟩ rfl rfl (Nat.le_of_ble_eq_true rfl) dL_law_3400 rfl (by omega) ?_
  have KK := fun (u1 : Nat) (hu1 : u1 ≤ u + 80) => K u1 ω _ hu1 hω (fun _ _ => rfl) hI2
  refine rj_lstore (l' := (7, .long (fX12_balance (mL_balance μ (xs (i + 1)) (xs (i + 2))) (xs (i + 1)) (xs (i + 2)))) :: (6, .int (fL_balance μ (xs (i + 1)) (xs (i + 2)))) :: ll b ω.2.2 i) dL_law_3403 rfl (by decide) rfl ?_
  have KT : ∀ u1 : Nat, u1 ≤ u + 80 → rl_R g hh b L xs u1 ω (mX12_balance (mL_balance μ (xs (i + 1)) (xs (i + 2))) (xs (i + 1)) (xs (i + 2))) ((7, .long (fX12_balance (mL_balance μ (xs (i + 1)) (xs (i + 2))) (xs (i + 1)) (xs (i + 2)))) :: (6, .int (fL_balance μ (xs (i + 1)) (xs (i + 2)))) :: ll b ω.2.2 i) 3432 [] := fun u1 hu1 => rj_goto dL_law_3432 rfl (rj_sub (l' := ll b ω.2.2 i) [2, 3, 4, 5, 6, 7] rfl (KK u1 hu1))
  refine rl_tail hω (by omega) ht dL_law_3405 rfl dL_law_3406 rfl dL_law_3409 rfl dL_law_3411 rfl dL_law_3416 rfl dL_law_3418 rfl rfl (fun h => ?_) (KT _ (by omega))
  refine rj_aload_n 5 dL_law_3421 rfl rfl ?_
  refine rj_iconst (v := 0) dL_law_3422 rfl rfl ?_
  refine rj_lald (k := 438) (n := 1) dL_law_3423 rfl (rj_lt hω (k := 438) rfl) (rj_sh hω ly_438) (vp_in_nI (n := 0) (rj_bl rfl) (rj_bl rfl)) ?_
  refine rj_lload 0 dL_law_3424 rfl rfl ?_
  refine rj_lcmp dL_law_3426 rfl ?_
  have e : (mX12_balance (mL_balance μ (xs (i + 1)) (xs (i + 2))) (xs (i + 1)) (xs (i + 2))).2.1 438 (0 : Int32).toNatClampNeg = (fX12_balance (mL_balance μ (xs (i + 1)) (xs (i + 2))) (xs (i + 1)) (xs (i + 2))) := (ho h).1
  rw [e, lg_self]
  exact rj_if_eq dL_law_3427 rfl rfl (fun _ => KT _ (by omega)) (fun h' => absurd rfl h')

set_option maxHeartbeats 4000000 in
set_option maxRecDepth 100000 in
theorem lc_53 {g : rj_G} {hh : List (Nat × Nat × Nat × Nat)} {b L n u i : Nat} {xs : Nat → Int32} {ω : rj_W} {μ : rj_M} (hω : rj_ok ω) (hL : L ≤ 3072) (hi : i + 6 ≤ L) (hn : n ≤ 600) (hu : u ≤ 500000) (I : zi_I n μ μ) (K : rl_K g hh b L xs n u ω i) : rl_R g hh b L xs u ω μ (ll b ω.2.2 i) 3435 [] := by
  have op := fun (c r : rj_M) (h : zi_I n c r) => zu_lost (c := c) (r := r) h
  obtain ⟨hI1, hI2, he⟩ := zl_B (n := n) (μ := μ) (M := fun c => c) (R := fun r => mX12_lost r) (Fv := fun c => fX11_lost c ) (Bv := fun r => fX12_lost r) (fun c r h => ⟨(op c r h).1, (op c r h).2.2⟩) I
  refine rj_aload_n 1 dL_law_3435 rfl rfl ?_
  refine rl_callV (av := []) (rest := []) (sX11_lost (g := g) (ω := ω) hω μ ) lw_k_X11_lost (rj_lt hω (k := 0) rfl) (rj_sh hω ly_0) rfl rfl hVX11_lost ⟨Nat.le_of_ble_eq_true rfl, Nat.le_of_ble_eq_true rfl⟩ rfl rfl (Nat.le_of_ble_eq_true rfl) dL_law_3436 rfl (by omega) ?_
  refine rj_aload_n 2 dL_law_3439 rfl rfl ?_
  refine rl_callV (av := []) (rest := [.int (fX11_lost μ)]) (sX12_lost (g := g) (ω := ω) hω μ ) lw_k_X12_lost (rj_lt hω (k := 395) rfl) (rj_sh hω ly_395) rfl rfl hVX12_lost ⟨Nat.le_of_ble_eq_true rfl, Nat.le_of_ble_eq_true rfl⟩ rfl rfl (Nat.le_of_ble_eq_true rfl) dL_law_3440 rfl (by omega) ?_
  exact rj_icmp_eq dL_law_3443 rfl rfl (fun _ => (K _ ω _ (by omega) hω (fun _ _ => rfl) hI2)) (fun h => absurd he h)

set_option maxHeartbeats 4000000 in
set_option maxRecDepth 100000 in
theorem lc_54 {g : rj_G} {hh : List (Nat × Nat × Nat × Nat)} {b L n u i : Nat} {xs : Nat → Int32} {ω : rj_W} {μ : rj_M} (hω : rj_ok ω) (hL : L ≤ 3072) (hi : i + 6 ≤ L) (hn : n ≤ 600) (hu : u ≤ 500000) (I : zi_I n μ μ) (K : rl_K g hh b L xs n u ω i) : rl_R g hh b L xs u ω μ (ll b ω.2.2 i) 3448 [] := by
  have op := fun (c r : rj_M) (h : zi_I n c r) => zu_meanEvening (c := c) (r := r) (a0 := (xs (i + 1))) h
  obtain ⟨hx, hI1, hI2, ht, ho⟩ := zl_D (n := n) (μ := μ) (Ls := ["java/lang/IndexOutOfBoundsException"]) (F := fun c => fX11_meanEvening c (xs (i + 1))) (M := fun c => mX11_meanEvening c (xs (i + 1))) (R := fun r => mX12_meanEvening r (xs (i + 1))) (B := fun r => fX12_meanEvening r (xs (i + 1))) (mL := (mL_meanEvening μ (xs (i + 1)))) (kk := (fL_meanEvening μ (xs (i + 1)))) (fun c r h => ⟨(op c r h).1, (op c r h).2.1⟩) (by decide) I rfl rfl
  have hq1 := (op μ μ I).2.2.1
  have hq2 := (op μ _ hI1).2.2.2
  refine rj_aload_n 1 dL_law_3448 rfl rfl ?_
  refine rl_arg (kk := 1) hL hi (by decide) (by decide) 0 5 rfl rfl dL_law_3449 rfl dL_law_3450 rfl dL_law_3452 rfl dL_law_3453 rfl dL_law_3454 rfl ?_
  refine rj_aload 4 dL_law_3455 rfl rfl ?_
  refine rl_callW (av := [.ref (ω.2.2 0), .int (xs (i + 1)), .ref (ω.2.2 439)]) (rest := []) (sL_meanEvening (g := g) (ω := ω) hω μ (xs (i + 1)) hq1 hx) lw_k_L_meanEvening rfl hSL_meanEvening ⟨Nat.le_of_ble_eq_true rfl, Nat.le_of_ble_eq_true rfl⟩ rfl rfl (Nat.le_of_ble_eq_true rfl) dL_law_3457 rfl (by omega) ?_
  refine rj_istore (l' := (6, .int (fL_meanEvening μ (xs (i + 1)))) :: ll b ω.2.2 i) dL_law_3460 rfl (rj_bl rfl) rfl ?_
  refine rj_aload_n 3 dL_law_3462 rfl rfl ?_
  refine rl_arg (kk := 1) hL hi (by decide) (by decide) 1 6 rfl rfl dL_law_3463 rfl dL_law_3464 rfl dL_law_3466 rfl dL_law_3467 rfl dL_law_3468 rfl ?_
  refine rl_callV (av := [.int (xs (i + 1))]) (rest := []) (sX12_meanEvening (g := g) (ω := ω) hω (mL_meanEvening μ (xs (i + 1))) (xs (i + 1)) hq2) lw_k_X12_meanEvening (rj_lt hω (k := 395) rfl) (rj_sh hω ly_395) rfl rfl hVX12_meanEvening ⟨Nat.le_of_ble_eq_true rfl, Nat.le_of_ble_eq_true rfl⟩ rfl rfl (Nat.le_of_ble_eq_true rfl) dL_law_3469 rfl (by omega) ?_
  have KK := fun (u1 : Nat) (hu1 : u1 ≤ u + 80) => K u1 ω _ hu1 hω (fun _ _ => rfl) hI2
  refine rj_dstore (l' := (7, .double (fX12_meanEvening (mL_meanEvening μ (xs (i + 1))) (xs (i + 1)))) :: (6, .int (fL_meanEvening μ (xs (i + 1)))) :: ll b ω.2.2 i) dL_law_3472 rfl (by decide) rfl ?_
  have KT : ∀ u1 : Nat, u1 ≤ u + 80 → rl_R g hh b L xs u1 ω (mX12_meanEvening (mL_meanEvening μ (xs (i + 1))) (xs (i + 1))) ((7, .double (fX12_meanEvening (mL_meanEvening μ (xs (i + 1))) (xs (i + 1)))) :: (6, .int (fL_meanEvening μ (xs (i + 1)))) :: ll b ω.2.2 i) 3522 [] := fun u1 hu1 => rj_goto dL_law_3522 rfl (rj_sub (l' := ll b ω.2.2 i) [2, 3, 4, 5, 6, 7] rfl (KK u1 hu1))
  refine rl_tail hω (by omega) ht dL_law_3474 rfl dL_law_3475 rfl dL_law_3478 rfl dL_law_3480 rfl dL_law_3485 rfl dL_law_3487 rfl rfl (fun h => ?_) (KT _ (by omega))
  refine rj_aload 6 dL_law_3490 rfl rfl ?_
  refine rj_iconst (v := 0) dL_law_3492 rfl rfl ?_
  refine rj_dald (k := 439) (n := 1) dL_law_3493 rfl (rj_lt hω (k := 439) rfl) (rj_sh hω ly_439) (vp_in_nI (n := 0) (rj_bl rfl) (rj_bl rfl)) ?_
  refine rj_dload 0 dL_law_3494 rfl rfl ?_
  refine rj_dcmp dL_law_3496 rfl ?_
  have e : (mX12_meanEvening (mL_meanEvening μ (xs (i + 1))) (xs (i + 1))).2.2.1 439 (0 : Int32).toNatClampNeg = (fX12_meanEvening (mL_meanEvening μ (xs (i + 1))) (xs (i + 1))) := (ho h).1
  rw [e, zd_self (zd_mean (ho h).2)]
  exact rj_if_eq dL_law_3497 rfl rfl (fun _ => KT _ (by omega)) (fun h' => absurd rfl h')

set_option maxHeartbeats 4000000 in
set_option maxRecDepth 100000 in
theorem lc_55 {g : rj_G} {hh : List (Nat × Nat × Nat × Nat)} {b L n u i : Nat} {xs : Nat → Int32} {ω : rj_W} {μ : rj_M} (hω : rj_ok ω) (hL : L ≤ 3072) (hi : i + 6 ≤ L) (hn : n ≤ 600) (hu : u ≤ 500000) (I : zi_I n μ μ) (K : rl_K g hh b L xs n u ω i) : rl_R g hh b L xs u ω μ (ll b ω.2.2 i) 3525 [] := by
  have op := fun (c r : rj_M) (h : zi_I n c r) => zu_lineupShare (c := c) (r := r) h
  obtain ⟨hI1, hI2, he⟩ := zl_B (n := n) (μ := μ) (M := fun c => mX11_lineupShare c) (R := fun r => mX12_lineupShare r) (Fv := fun c => fX11_lineupShare c ) (Bv := fun r => fX12_lineupShare r) (fun c r h => ⟨(op c r h).1, (op c r h).2.2.1⟩) I
  have hq1 := (op μ μ I).2.2.2.1
  have hq2 := (op μ _ hI1).2.2.2.2
  refine rj_aload_n 1 dL_law_3525 rfl rfl ?_
  refine rl_callV (av := []) (rest := []) (sX11_lineupShare (g := g) (ω := ω) hω μ  hq1) lw_k_X11_lineupShare (rj_lt hω (k := 0) rfl) (rj_sh hω ly_0) rfl rfl hVX11_lineupShare ⟨Nat.le_of_ble_eq_true rfl, Nat.le_of_ble_eq_true rfl⟩ rfl rfl (Nat.le_of_ble_eq_true rfl) dL_law_3526 rfl (by omega) ?_
  refine rj_f2d dL_law_3529 rfl (zd_f2d zd_share) ?_
  refine rj_dstore (l' := (6, .double (FP.f2d (fX11_lineupShare μ))) :: ll b ω.2.2 i) dL_law_3530 rfl (by decide) rfl ?_
  refine rj_aload_n 3 dL_law_3532 rfl rfl ?_
  refine rl_callV (av := []) (rest := []) (sX12_lineupShare (g := g) (ω := ω) hω (mX11_lineupShare μ) hq2) lw_k_X12_lineupShare (rj_lt hω (k := 395) rfl) (rj_sh hω ly_395) rfl rfl hVX12_lineupShare ⟨Nat.le_of_ble_eq_true rfl, Nat.le_of_ble_eq_true rfl⟩ rfl rfl (Nat.le_of_ble_eq_true rfl) dL_law_3533 rfl (by omega) ?_
  have he : fX11_lineupShare μ = fX12_lineupShare (mX11_lineupShare μ) := he
  rw [← he]
  refine rj_f2d dL_law_3536 rfl (zd_f2d zd_share) ?_
  refine rj_dstore (l' := (8, .double (FP.f2d (fX11_lineupShare μ))) :: (6, .double (FP.f2d (fX11_lineupShare μ))) :: ll b ω.2.2 i) dL_law_3537 rfl (by decide) rfl ?_
  refine rj_dload 1 dL_law_3539 rfl rfl ?_
  refine rj_dload 0 dL_law_3541 rfl rfl ?_
  refine rj_dcmp dL_law_3543 rfl ?_
  rw [zd_self (zd_f2dN zd_share)]
  refine rj_if_eq dL_law_3544 rfl rfl (fun _ => ?_) (fun h' => absurd rfl h')
  refine rj_goto dL_law_3565 rfl ?_
  exact rj_sub (l' := ll b ω.2.2 i) [2, 3, 4, 5, 6, 7] rfl (K _ ω _ (by omega) hω (fun _ _ => rfl) hI2)
