set_option maxHeartbeats 4000000 in
set_option maxRecDepth 100000 in
theorem lc_8 {g : rj_G} {hh : List (Nat × Nat × Nat × Nat)} {b L n u i : Nat} {xs : Nat → Int32} {ω : rj_W} {μ : rj_M} (hω : rj_ok ω) (hL : L ≤ 3072) (hi : i + 6 ≤ L) (hn : n ≤ 600) (hu : u ≤ 500000) (I : zi_I n μ μ) (K : rl_K g hh b L xs n u ω i) : rl_R g hh b L xs u ω μ (ll b ω.2.2 i) 931 [] := by
  have op := fun (c r : rj_M) (h : zi_I n c r) => zo_setCrowd (c := c) (r := r) (a0 := (xs (i + 1))) (a1 := (xs (i + 2))) h
  obtain ⟨hx, hI1, hI2, ht, ho⟩ := zl_A (n := n) (μ := μ) (Ls := ["java/lang/IndexOutOfBoundsException", "java/lang/IllegalArgumentException"]) (F := fun c => fX11_setCrowd c (xs (i + 1)) (xs (i + 2))) (M := fun c => mX11_setCrowd c (xs (i + 1)) (xs (i + 2))) (R := fun r => mX12_setCrowd r (xs (i + 1)) (xs (i + 2))) (B := fun r => fX12_setCrowd r (xs (i + 1)) (xs (i + 2))) (cv := fun v => v.toInt64) (mL := (mL_setCrowd μ (xs (i + 1)) (xs (i + 2)))) (kk := (fL_setCrowd μ (xs (i + 1)) (xs (i + 2)))) (fun c r h => ⟨(op c r h).1, (op c r h).2.1⟩) (by decide) I rfl rfl
  have hq1 := (op μ μ I).2.2.1
  have hq2 := (op μ _ hI1).2.2.2
  refine rj_aload_n 1 dL_law_931 rfl rfl ?_
  refine rl_arg (kk := 1) hL hi (by decide) (by decide) 0 5 rfl rfl dL_law_932 rfl dL_law_933 rfl dL_law_935 rfl dL_law_936 rfl dL_law_937 rfl ?_
  refine rl_arg (kk := 2) hL hi (by decide) (by decide) 0 5 rfl rfl dL_law_938 rfl dL_law_939 rfl dL_law_941 rfl dL_law_942 rfl dL_law_943 rfl ?_
  refine rj_aload_n 3 dL_law_944 rfl rfl ?_
  refine rl_callW (av := [.ref (ω.2.2 0), .int (xs (i + 1)), .int (xs (i + 2)), .ref (ω.2.2 438)]) (rest := []) (sL_setCrowd (g := g) (ω := ω) hω μ (xs (i + 1)) (xs (i + 2)) hq1 hx) lw_k_L_setCrowd rfl hSL_setCrowd ⟨Nat.le_of_ble_eq_true rfl, Nat.le_of_ble_eq_true rfl⟩ rfl rfl (Nat.le_of_ble_eq_true rfl) dL_law_945 rfl (by omega) ?_
  refine rj_istore (l' := (6, .int (fL_setCrowd μ (xs (i + 1)) (xs (i + 2)))) :: ll b ω.2.2 i) dL_law_948 rfl (rj_bl rfl) rfl ?_
  refine rj_aload_n 3 dL_law_950 rfl rfl ?_
  refine rl_arg (kk := 1) hL hi (by decide) (by decide) 1 6 rfl rfl dL_law_951 rfl dL_law_952 rfl dL_law_954 rfl dL_law_955 rfl dL_law_956 rfl ?_
  refine rl_arg (kk := 2) hL hi (by decide) (by decide) 1 6 rfl rfl dL_law_957 rfl dL_law_958 rfl dL_law_960 rfl dL_law_961 rfl dL_law_962 rfl ?_
  refine rl_callV (av := [.int (xs (i + 1)), .int (xs (i + 2))]) (rest := []) (sX12_setCrowd (g := g) (ω := ω) hω (mL_setCrowd μ (xs (i + 1)) (xs (i + 2))) (xs (i + 1)) (xs (i + 2)) hq2) lw_k_X12_setCrowd (rj_lt hω (k := 395) rfl) (rj_sh hω ly_395) rfl rfl hVX12_setCrowd ⟨Nat.le_of_ble_eq_true rfl, Nat.le_of_ble_eq_true rfl⟩ rfl rfl (Nat.le_of_ble_eq_true rfl) dL_law_963 rfl (by omega) ?_
  exact rl_tailI hω (by omega) ht (fun h => (ho h).1) dL_law_966 rfl dL_law_968 rfl dL_law_969 rfl dL_law_972 rfl dL_law_974 rfl dL_law_979 rfl dL_law_981 rfl rfl dL_law_984 rfl dL_law_985 rfl dL_law_986 rfl dL_law_987 rfl dL_law_989 rfl dL_law_990 rfl dL_law_991 rfl dL_law_996 rfl (K _ ω _ (by omega) hω (fun _ _ => rfl) hI2)

set_option maxHeartbeats 4000000 in
set_option maxRecDepth 100000 in
theorem lc_9 {g : rj_G} {hh : List (Nat × Nat × Nat × Nat)} {b L n u i : Nat} {xs : Nat → Int32} {ω : rj_W} {μ : rj_M} (hω : rj_ok ω) (hL : L ≤ 3072) (hi : i + 6 ≤ L) (hn : n ≤ 600) (hu : u ≤ 500000) (I : zi_I n μ μ) (K : rl_K g hh b L xs n u ω i) : rl_R g hh b L xs u ω μ (ll b ω.2.2 i) 999 [] := by
  have op := fun (c r : rj_M) (h : zi_I n c r) => zo_setServing (c := c) (r := r) (a0 := (xs (i + 1))) h
  obtain ⟨hx, hI1, hI2, ht, ho⟩ := zl_A (n := n) (μ := μ) (Ls := ["java/lang/IllegalArgumentException"]) (F := fun c => fX11_setServing c (xs (i + 1))) (M := fun c => mX11_setServing c (xs (i + 1))) (R := fun r => mX12_setServing r (xs (i + 1))) (B := fun r => fX12_setServing r (xs (i + 1))) (cv := fun v => v.toInt64) (mL := (mL_setServing μ (xs (i + 1)))) (kk := (fL_setServing μ (xs (i + 1)))) (fun c r h => ⟨(op c r h).1, (op c r h).2.1⟩) (by decide) I rfl rfl
  have hq1 := (op μ μ I).2.2.1
  have hq2 := (op μ _ hI1).2.2.2
  refine rj_aload_n 1 dL_law_999 rfl rfl ?_
  refine rl_arg (kk := 1) hL hi (by decide) (by decide) 0 5 rfl rfl dL_law_1000 rfl dL_law_1001 rfl dL_law_1003 rfl dL_law_1004 rfl dL_law_1005 rfl ?_
  refine rj_aload_n 3 dL_law_1006 rfl rfl ?_
  refine rl_callW (av := [.ref (ω.2.2 0), .int (xs (i + 1)), .ref (ω.2.2 438)]) (rest := []) (sL_setServing (g := g) (ω := ω) hω μ (xs (i + 1)) hq1 hx) lw_k_L_setServing rfl hSL_setServing ⟨Nat.le_of_ble_eq_true rfl, Nat.le_of_ble_eq_true rfl⟩ rfl rfl (Nat.le_of_ble_eq_true rfl) dL_law_1007 rfl (by omega) ?_
  refine rj_istore (l' := (6, .int (fL_setServing μ (xs (i + 1)))) :: ll b ω.2.2 i) dL_law_1010 rfl (rj_bl rfl) rfl ?_
  refine rj_aload_n 3 dL_law_1012 rfl rfl ?_
  refine rl_arg (kk := 1) hL hi (by decide) (by decide) 1 6 rfl rfl dL_law_1013 rfl dL_law_1014 rfl dL_law_1016 rfl dL_law_1017 rfl dL_law_1018 rfl ?_
  refine rl_callV (av := [.int (xs (i + 1))]) (rest := []) (sX12_setServing (g := g) (ω := ω) hω (mL_setServing μ (xs (i + 1))) (xs (i + 1)) hq2) lw_k_X12_setServing (rj_lt hω (k := 395) rfl) (rj_sh hω ly_395) rfl rfl hVX12_setServing ⟨Nat.le_of_ble_eq_true rfl, Nat.le_of_ble_eq_true rfl⟩ rfl rfl (Nat.le_of_ble_eq_true rfl) dL_law_1019 rfl (by omega) ?_
  exact rl_tailI hω (by omega) ht (fun h => (ho h).1) dL_law_1022 rfl dL_law_1024 rfl dL_law_1025 rfl dL_law_1028 rfl dL_law_1030 rfl dL_law_1035 rfl dL_law_1037 rfl rfl dL_law_1040 rfl dL_law_1041 rfl dL_law_1042 rfl dL_law_1043 rfl dL_law_1045 rfl dL_law_1046 rfl dL_law_1047 rfl dL_law_1052 rfl (K _ ω _ (by omega) hω (fun _ _ => rfl) hI2)

set_option maxHeartbeats 4000000 in
set_option maxRecDepth 100000 in
theorem lc_10 {g : rj_G} {hh : List (Nat × Nat × Nat × Nat)} {b L n u i : Nat} {xs : Nat → Int32} {ω : rj_W} {μ : rj_M} (hω : rj_ok ω) (hL : L ≤ 3072) (hi : i + 6 ≤ L) (hn : n ≤ 600) (hu : u ≤ 500000) (I : zi_I n μ μ) (K : rl_K g hh b L xs n u ω i) : rl_R g hh b L xs u ω μ (ll b ω.2.2 i) 1055 [] := by
  have op := fun (c r : rj_M) (h : zi_I n c r) => zo_join (c := c) (r := r) (a0 := (xs (i + 1))) (a1 := (xs (i + 2))) h
  obtain ⟨hx, hI1, hI2, ht, ho⟩ := zl_A (n := n) (μ := μ) (Ls := ["java/lang/IndexOutOfBoundsException", "java/lang/IllegalStateException"]) (F := fun c => fX11_join c (xs (i + 1)) (xs (i + 2))) (M := fun c => mX11_join c (xs (i + 1)) (xs (i + 2))) (R := fun r => mX12_join r (xs (i + 1)) (xs (i + 2))) (B := fun r => fX12_join r (xs (i + 1)) (xs (i + 2))) (cv := fun v => v.toInt64) (mL := (mL_join μ (xs (i + 1)) (xs (i + 2)))) (kk := (fL_join μ (xs (i + 1)) (xs (i + 2)))) (fun c r h => ⟨(op c r h).1, (op c r h).2.1⟩) (by decide) I rfl rfl
  have hq1 := (op μ μ I).2.2.1
  have hq2 := (op μ _ hI1).2.2.2
  refine rj_aload_n 1 dL_law_1055 rfl rfl ?_
  refine rl_arg (kk := 1) hL hi (by decide) (by decide) 0 5 rfl rfl dL_law_1056 rfl dL_law_1057 rfl dL_law_1059 rfl dL_law_1060 rfl dL_law_1061 rfl ?_
  refine rl_arg (kk := 2) hL hi (by decide) (by decide) 0 5 rfl rfl dL_law_1062 rfl dL_law_1063 rfl dL_law_1065 rfl dL_law_1066 rfl dL_law_1067 rfl ?_
  refine rj_aload_n 3 dL_law_1068 rfl rfl ?_
  refine rl_callW (av := [.ref (ω.2.2 0), .int (xs (i + 1)), .int (xs (i + 2)), .ref (ω.2.2 438)]) (rest := []) (sL_join (g := g) (ω := ω) hω μ (xs (i + 1)) (xs (i + 2)) hq1 hx) lw_k_L_join rfl hSL_join ⟨Nat.le_of_ble_eq_true rfl, Nat.le_of_ble_eq_true rfl⟩ rfl rfl (Nat.le_of_ble_eq_true rfl) dL_law_1069 rfl (by omega) ?_
  refine rj_istore (l' := (6, .int (fL_join μ (xs (i + 1)) (xs (i + 2)))) :: ll b ω.2.2 i) dL_law_1072 rfl (rj_bl rfl) rfl ?_
  refine rj_aload_n 3 dL_law_1074 rfl rfl ?_
  refine rl_arg (kk := 1) hL hi (by decide) (by decide) 1 6 rfl rfl dL_law_1075 rfl dL_law_1076 rfl dL_law_1078 rfl dL_law_1079 rfl dL_law_1080 rfl ?_
  refine rl_arg (kk := 2) hL hi (by decide) (by decide) 1 6 rfl rfl dL_law_1081 rfl dL_law_1082 rfl dL_law_1084 rfl dL_law_1085 rfl dL_law_1086 rfl ?_
  refine rl_callV (av := [.int (xs (i + 1)), .int (xs (i + 2))]) (rest := []) (sX12_join (g := g) (ω := ω) hω (mL_join μ (xs (i + 1)) (xs (i + 2))) (xs (i + 1)) (xs (i + 2)) hq2) lw_k_X12_join (rj_lt hω (k := 395) rfl) (rj_sh hω ly_395) rfl rfl hVX12_join ⟨Nat.le_of_ble_eq_true rfl, Nat.le_of_ble_eq_true rfl⟩ rfl rfl (Nat.le_of_ble_eq_true rfl) dL_law_1087 rfl (by omega) ?_
  exact rl_tailI hω (by omega) ht (fun h => (ho h).1) dL_law_1090 rfl dL_law_1092 rfl dL_law_1093 rfl dL_law_1096 rfl dL_law_1098 rfl dL_law_1103 rfl dL_law_1105 rfl rfl dL_law_1108 rfl dL_law_1109 rfl dL_law_1110 rfl dL_law_1111 rfl dL_law_1113 rfl dL_law_1114 rfl dL_law_1115 rfl dL_law_1120 rfl (K _ ω _ (by omega) hω (fun _ _ => rfl) hI2)

set_option maxHeartbeats 4000000 in
set_option maxRecDepth 100000 in
theorem lc_11 {g : rj_G} {hh : List (Nat × Nat × Nat × Nat)} {b L n u i : Nat} {xs : Nat → Int32} {ω : rj_W} {μ : rj_M} (hω : rj_ok ω) (hL : L ≤ 3072) (hi : i + 6 ≤ L) (hn : n ≤ 600) (hu : u ≤ 500000) (I : zi_I n μ μ) (K : rl_K g hh b L xs n u ω i) : rl_R g hh b L xs u ω μ (ll b ω.2.2 i) 1123 [] := by
  have op := fun (c r : rj_M) (h : zi_I n c r) => zo_leave (c := c) (r := r) (a0 := (xs (i + 1))) h
  obtain ⟨hx, hI1, hI2, ht, ho⟩ := zl_A (n := n) (μ := μ) (Ls := ["java/lang/IndexOutOfBoundsException", "java/lang/IllegalStateException"]) (F := fun c => fX11_leave c (xs (i + 1))) (M := fun c => mX11_leave c (xs (i + 1))) (R := fun r => mX12_leave r (xs (i + 1))) (B := fun r => fX12_leave r (xs (i + 1))) (cv := fun v => v.toInt64) (mL := (mL_leave μ (xs (i + 1)))) (kk := (fL_leave μ (xs (i + 1)))) (fun c r h => ⟨(op c r h).1, (op c r h).2.1⟩) (by decide) I rfl rfl
  have hq1 := (op μ μ I).2.2.1
  have hq2 := (op μ _ hI1).2.2.2
  refine rj_aload_n 1 dL_law_1123 rfl rfl ?_
  refine rl_arg (kk := 1) hL hi (by decide) (by decide) 0 5 rfl rfl dL_law_1124 rfl dL_law_1125 rfl dL_law_1127 rfl dL_law_1128 rfl dL_law_1129 rfl ?_
  refine rj_aload_n 3 dL_law_1130 rfl rfl ?_
  refine rl_callW (av := [.ref (ω.2.2 0), .int (xs (i + 1)), .ref (ω.2.2 438)]) (rest := []) (sL_leave (g := g) (ω := ω) hω μ (xs (i + 1)) hq1 hx) lw_k_L_leave rfl hSL_leave ⟨Nat.le_of_ble_eq_true rfl, Nat.le_of_ble_eq_true rfl⟩ rfl rfl (Nat.le_of_ble_eq_true rfl) dL_law_1131 rfl (by omega) ?_
  refine rj_istore (l' := (6, .int (fL_leave μ (xs (i + 1)))) :: ll b ω.2.2 i) dL_law_1134 rfl (rj_bl rfl) rfl ?_
  refine rj_aload_n 3 dL_law_1136 rfl rfl ?_
  refine rl_arg (kk := 1) hL hi (by decide) (by decide) 1 6 rfl rfl dL_law_1137 rfl dL_law_1138 rfl dL_law_1140 rfl dL_law_1141 rfl dL_law_1142 rfl ?_
  refine rl_callV (av := [.int (xs (i + 1))]) (rest := []) (sX12_leave (g := g) (ω := ω) hω (mL_leave μ (xs (i + 1))) (xs (i + 1)) hq2) lw_k_X12_leave (rj_lt hω (k := 395) rfl) (rj_sh hω ly_395) rfl rfl hVX12_leave ⟨Nat.le_of_ble_eq_true rfl, Nat.le_of_ble_eq_true rfl⟩ rfl rfl (Nat.le_of_ble_eq_true rfl) dL_law_1143 rfl (by omega) ?_
  exact rl_tailI hω (by omega) ht (fun h => (ho h).1) dL_law_1146 rfl dL_law_1148 rfl dL_law_1149 rfl dL_law_1152 rfl dL_law_1154 rfl dL_law_1159 rfl dL_law_1161 rfl rfl dL_law_1164 rfl dL_law_1165 rfl dL_law_1166 rfl dL_law_1167 rfl dL_law_1169 rfl dL_law_1170 rfl dL_law_1171 rfl dL_law_1176 rfl (K _ ω _ (by omega) hω (fun _ _ => rfl) hI2)

set_option maxHeartbeats 4000000 in
set_option maxRecDepth 100000 in
theorem lc_12 {g : rj_G} {hh : List (Nat × Nat × Nat × Nat)} {b L n u i : Nat} {xs : Nat → Int32} {ω : rj_W} {μ : rj_M} (hω : rj_ok ω) (hL : L ≤ 3072) (hi : i + 6 ≤ L) (hn : n ≤ 600) (hu : u ≤ 500000) (I : zi_I n μ μ) (K : rl_K g hh b L xs n u ω i) : rl_R g hh b L xs u ω μ (ll b ω.2.2 i) 1179 [] := by
  have op := fun (c r : rj_M) (h : zi_I n c r) => zo_pass (c := c) (r := r) (a0 := (xs (i + 1))) h
  obtain ⟨hx, hI1, hI2, ht, ho⟩ := zl_A (n := n) (μ := μ) (Ls := ["java/lang/IllegalArgumentException"]) (F := fun c => fX11_pass c (xs (i + 1))) (M := fun c => mX11_pass c (xs (i + 1))) (R := fun r => mX12_pass r (xs (i + 1))) (B := fun r => fX12_pass r (xs (i + 1))) (cv := fun v => v.toInt64) (mL := (mL_pass μ (xs (i + 1)))) (kk := (fL_pass μ (xs (i + 1)))) (fun c r h => ⟨(op c r h).1, (op c r h).2.1⟩) (by decide) I rfl rfl
  have hq1 := (op μ μ I).2.2.1
  have hq2 := (op μ _ hI1).2.2.2
  refine rj_aload_n 1 dL_law_1179 rfl rfl ?_
  refine rl_arg (kk := 1) hL hi (by decide) (by decide) 0 5 rfl rfl dL_law_1180 rfl dL_law_1181 rfl dL_law_1183 rfl dL_law_1184 rfl dL_law_1185 rfl ?_
  refine rj_aload_n 3 dL_law_1186 rfl rfl ?_
  refine rl_callW (av := [.ref (ω.2.2 0), .int (xs (i + 1)), .ref (ω.2.2 438)]) (rest := []) (sL_pass (g := g) (ω := ω) hω μ (xs (i + 1)) hq1 hx) lw_k_L_pass rfl hSL_pass ⟨Nat.le_of_ble_eq_true rfl, Nat.le_of_ble_eq_true rfl⟩ rfl rfl (Nat.le_of_ble_eq_true rfl) dL_law_1187 rfl (by omega) ?_
  refine rj_istore (l' := (6, .int (fL_pass μ (xs (i + 1)))) :: ll b ω.2.2 i) dL_law_1190 rfl (rj_bl rfl) rfl ?_
  refine rj_aload_n 3 dL_law_1192 rfl rfl ?_
  refine rl_arg (kk := 1) hL hi (by decide) (by decide) 1 6 rfl rfl dL_law_1193 rfl dL_law_1194 rfl dL_law_1196 rfl dL_law_1197 rfl dL_law_1198 rfl ?_
  refine rl_callV (av := [.int (xs (i + 1))]) (rest := []) (sX12_pass (g := g) (ω := ω) hω (mL_pass μ (xs (i + 1))) (xs (i + 1)) hq2) lw_k_X12_pass (rj_lt hω (k := 395) rfl) (rj_sh hω ly_395) rfl rfl hVX12_pass ⟨Nat.le_of_ble_eq_true rfl, Nat.le_of_ble_eq_true rfl⟩ rfl rfl (Nat.le_of_ble_eq_true rfl) dL_law_1199 rfl (by omega) ?_
  exact rl_tailI hω (by omega) ht (fun h => (ho h).1) dL_law_1202 rfl dL_law_1204 rfl dL_law_1205 rfl dL_law_1208 rfl dL_law_1210 rfl dL_law_1215 rfl dL_law_1217 rfl rfl dL_law_1220 rfl dL_law_1221 rfl dL_law_1222 rfl dL_law_1223 rfl dL_law_1225 rfl dL_law_1226 rfl dL_law_1227 rfl dL_law_1232 rfl (K _ ω _ (by omega) hω (fun _ _ => rfl) hI2)

set_option maxHeartbeats 4000000 in
set_option maxRecDepth 100000 in
theorem lc_13 {g : rj_G} {hh : List (Nat × Nat × Nat × Nat)} {b L n u i : Nat} {xs : Nat → Int32} {ω : rj_W} {μ : rj_M} (hω : rj_ok ω) (hL : L ≤ 3072) (hi : i + 6 ≤ L) (hn : n ≤ 600) (hu : u ≤ 500000) (I : zi_I n μ μ) (K : rl_K g hh b L xs n u ω i) : rl_R g hh b L xs u ω μ (ll b ω.2.2 i) 1235 [] := by
  have op := fun (c r : rj_M) (h : zi_I n c r) => zo_setNeed (c := c) (r := r) (a0 := (xs (i + 1))) (a1 := (xs (i + 2))) h
  obtain ⟨hx, hI1, hI2, ht, ho⟩ := zl_A (n := n) (μ := μ) (Ls := ["java/lang/IndexOutOfBoundsException", "java/lang/IllegalArgumentException"]) (F := fun c => fX11_setNeed c (xs (i + 1)) (xs (i + 2))) (M := fun c => mX11_setNeed c (xs (i + 1)) (xs (i + 2))) (R := fun r => mX12_setNeed r (xs (i + 1)) (xs (i + 2))) (B := fun r => fX12_setNeed r (xs (i + 1)) (xs (i + 2))) (cv := fun v => v.toInt64) (mL := (mL_setNeed μ (xs (i + 1)) (xs (i + 2)))) (kk := (fL_setNeed μ (xs (i + 1)) (xs (i + 2)))) (fun c r h => ⟨(op c r h).1, (op c r h).2.1⟩) (by decide) I rfl rfl
  have hq1 := (op μ μ I).2.2.1
  have hq2 := (op μ _ hI1).2.2.2
  refine rj_aload_n 1 dL_law_1235 rfl rfl ?_
  refine rl_arg (kk := 1) hL hi (by decide) (by decide) 0 5 rfl rfl dL_law_1236 rfl dL_law_1237 rfl dL_law_1239 rfl dL_law_1240 rfl dL_law_1241 rfl ?_
  refine rl_arg (kk := 2) hL hi (by decide) (by decide) 0 5 rfl rfl dL_law_1242 rfl dL_law_1243 rfl dL_law_1245 rfl dL_law_1246 rfl dL_law_1247 rfl ?_
  refine rj_aload_n 3 dL_law_1248 rfl rfl ?_
  refine rl_callW (av := [.ref (ω.2.2 0), .int (xs (i + 1)), .int (xs (i + 2)), .ref (ω.2.2 438)]) (rest := []) (sL_setNeed (g := g) (ω := ω) hω μ (xs (i + 1)) (xs (i + 2)) hq1 hx) lw_k_L_setNeed rfl hSL_setNeed ⟨Nat.le_of_ble_eq_true rfl, Nat.le_of_ble_eq_true rfl⟩ rfl rfl (Nat.le_of_ble_eq_true rfl) dL_law_1249 rfl (by omega) ?_
  refine rj_istore (l' := (6, .int (fL_setNeed μ (xs (i + 1)) (xs (i + 2)))) :: ll b ω.2.2 i) dL_law_1252 rfl (rj_bl rfl) rfl ?_
  refine rj_aload_n 3 dL_law_1254 rfl rfl ?_
  refine rl_arg (kk := 1) hL hi (by decide) (by decide) 1 6 rfl rfl dL_law_1255 rfl dL_law_1256 rfl dL_law_1258 rfl dL_law_1259 rfl dL_law_1260 rfl ?_
  refine rl_arg (kk := 2) hL hi (by decide) (by decide) 1 6 rfl rfl dL_law_1261 rfl dL_law_1262 rfl dL_law_1264 rfl dL_law_1265 rfl dL_law_1266 rfl ?_
  refine rl_callV (av := [.int (xs (i + 1)), .int (xs (i + 2))]) (rest := []) (sX12_setNeed (g := g) (ω := ω) hω (mL_setNeed μ (xs (i + 1)) (xs (i + 2))) (xs (i + 1)) (xs (i + 2)) hq2) lw_k_X12_setNeed (rj_lt hω (k := 395) rfl) (rj_sh hω ly_395) rfl rfl hVX12_setNeed ⟨Nat.le_of_ble_eq_true rfl, Nat.le_of_ble_eq_true rfl⟩ rfl rfl (Nat.le_of_ble_eq_true rfl) dL_law_1267 rfl (by omega) ?_
  exact rl_tailI hω (by omega) ht (fun h => (ho h).1) dL_law_1270 rfl dL_law_1272 rfl dL_law_1273 rfl dL_law_1276 rfl dL_law_1278 rfl dL_law_1283 rfl dL_law_1285 rfl rfl dL_law_1288 rfl dL_law_1289 rfl dL_law_1290 rfl dL_law_1291 rfl dL_law_1293 rfl dL_law_1294 rfl dL_law_1295 rfl dL_law_1300 rfl (K _ ω _ (by omega) hω (fun _ _ => rfl) hI2)

set_option maxHeartbeats 4000000 in
set_option maxRecDepth 100000 in
theorem lc_14 {g : rj_G} {hh : List (Nat × Nat × Nat × Nat)} {b L n u i : Nat} {xs : Nat → Int32} {ω : rj_W} {μ : rj_M} (hω : rj_ok ω) (hL : L ≤ 3072) (hi : i + 6 ≤ L) (hn : n ≤ 600) (hu : u ≤ 500000) (I : zi_I n μ μ) (K : rl_K g hh b L xs n u ω i) : rl_R g hh b L xs u ω μ (ll b ω.2.2 i) 1303 [] := by
  have op := fun (c r : rj_M) (h : zi_I n c r) => zo_setShift (c := c) (r := r) (a0 := (xs (i + 1))) h
  obtain ⟨hx, hI1, hI2, ht, ho⟩ := zl_A (n := n) (μ := μ) (Ls := ["java/lang/IllegalArgumentException"]) (F := fun c => fX11_setShift c (xs (i + 1))) (M := fun c => mX11_setShift c (xs (i + 1))) (R := fun r => mX12_setShift r (xs (i + 1))) (B := fun r => fX12_setShift r (xs (i + 1))) (cv := fun v => v.toInt64) (mL := (mL_setShift μ (xs (i + 1)))) (kk := (fL_setShift μ (xs (i + 1)))) (fun c r h => ⟨(op c r h).1, (op c r h).2.1⟩) (by decide) I rfl rfl
  have hq1 := (op μ μ I).2.2.1
  have hq2 := (op μ _ hI1).2.2.2
  refine rj_aload_n 1 dL_law_1303 rfl rfl ?_
  refine rl_arg (kk := 1) hL hi (by decide) (by decide) 0 5 rfl rfl dL_law_1304 rfl dL_law_1305 rfl dL_law_1307 rfl dL_law_1308 rfl dL_law_1309 rfl ?_
  refine rj_aload_n 3 dL_law_1310 rfl rfl ?_
  refine rl_callW (av := [.ref (ω.2.2 0), .int (xs (i + 1)), .ref (ω.2.2 438)]) (rest := []) (sL_setShift (g := g) (ω := ω) hω μ (xs (i + 1)) hq1 hx) lw_k_L_setShift rfl hSL_setShift ⟨Nat.le_of_ble_eq_true rfl, Nat.le_of_ble_eq_true rfl⟩ rfl rfl (Nat.le_of_ble_eq_true rfl) dL_law_1311 rfl (by omega) ?_
  refine rj_istore (l' := (6, .int (fL_setShift μ (xs (i + 1)))) :: ll b ω.2.2 i) dL_law_1314 rfl (rj_bl rfl) rfl ?_
  refine rj_aload_n 3 dL_law_1316 rfl rfl ?_
  refine rl_arg (kk := 1) hL hi (by decide) (by decide) 1 6 rfl rfl dL_law_1317 rfl dL_law_1318 rfl dL_law_1320 rfl dL_law_1321 rfl dL_law_1322 rfl ?_
  refine rl_callV (av := [.int (xs (i + 1))]) (rest := []) (sX12_setShift (g := g) (ω := ω) hω (mL_setShift μ (xs (i + 1))) (xs (i + 1)) hq2) lw_k_X12_setShift (rj_lt hω (k := 395) rfl) (rj_sh hω ly_395) rfl rfl hVX12_setShift ⟨Nat.le_of_ble_eq_true rfl, Nat.le_of_ble_eq_true rfl⟩ rfl rfl (Nat.le_of_ble_eq_true rfl) dL_law_1323 rfl (by omega) ?_
  exact rl_tailI hω (by omega) ht (fun h => (ho h).1) dL_law_1326 rfl dL_law_1328 rfl dL_law_1329 rfl dL_law_1332 rfl dL_law_1334 rfl dL_law_1339 rfl dL_law_1341 rfl rfl dL_law_1344 rfl dL_law_1345 rfl dL_law_1346 rfl dL_law_1347 rfl dL_law_1349 rfl dL_law_1350 rfl dL_law_1351 rfl dL_law_1356 rfl (K _ ω _ (by omega) hω (fun _ _ => rfl) hI2)

set_option maxHeartbeats 4000000 in
set_option maxRecDepth 100000 in
theorem lc_15 {g : rj_G} {hh : List (Nat × Nat × Nat × Nat)} {b L n u i : Nat} {xs : Nat → Int32} {ω : rj_W} {μ : rj_M} (hω : rj_ok ω) (hL : L ≤ 3072) (hi : i + 6 ≤ L) (hn : n ≤ 600) (hu : u ≤ 500000) (I : zi_I n μ μ) (K : rl_K g hh b L xs n u ω i) : rl_R g hh b L xs u ω μ (ll b ω.2.2 i) 1359 [] := by
  have op := fun (c r : rj_M) (h : zi_I n c r) => zo_setLoad (c := c) (r := r) (a0 := (xs (i + 1))) (a1 := (xs (i + 2))) (a2 := (xs (i + 3))) h
  obtain ⟨hx, hI1, hI2, ht, ho⟩ := zl_A (n := n) (μ := μ) (Ls := ["java/lang/IndexOutOfBoundsException", "java/lang/IllegalArgumentException"]) (F := fun c => fX11_setLoad c (xs (i + 1)) (xs (i + 2)) (xs (i + 3))) (M := fun c => mX11_setLoad c (xs (i + 1)) (xs (i + 2)) (xs (i + 3))) (R := fun r => mX12_setLoad r (xs (i + 1)) (xs (i + 2)) (xs (i + 3))) (B := fun r => fX12_setLoad r (xs (i + 1)) (xs (i + 2)) (xs (i + 3))) (cv := fun v => v.toInt64) (mL := (mL_setLoad μ (xs (i + 1)) (xs (i + 2)) (xs (i + 3)))) (kk := (fL_setLoad μ (xs (i + 1)) (xs (i + 2)) (xs (i + 3)))) (fun c r h => ⟨(op c r h).1, (op c r h).2.1⟩) (by decide) I rfl rfl
  have hq1 := (op μ μ I).2.2.1
  have hq2 := (op μ _ hI1).2.2.2
  refine rj_aload_n 1 dL_law_1359 rfl rfl ?_
  refine rl_arg (kk := 1) hL hi (by decide) (by decide) 0 5 rfl rfl dL_law_1360 rfl dL_law_1361 rfl dL_law_1363 rfl dL_law_1364 rfl dL_law_1365 rfl ?_
  refine rl_arg (kk := 2) hL hi (by decide) (by decide) 0 5 rfl rfl dL_law_1366 rfl dL_law_1367 rfl dL_law_1369 rfl dL_law_1370 rfl dL_law_1371 rfl ?_
  refine rl_arg (kk := 3) hL hi (by decide) (by decide) 0 5 rfl rfl dL_law_1372 rfl dL_law_1373 rfl dL_law_1375 rfl dL_law_1376 rfl dL_law_1377 rfl ?_
  refine rj_aload_n 3 dL_law_1378 rfl rfl ?_
  refine rl_callW (av := [.ref (ω.2.2 0), .int (xs (i + 1)), .int (xs (i + 2)), .int (xs (i + 3)), .ref (ω.2.2 438)]) (rest := []) (sL_setLoad (g := g) (ω := ω) hω μ (xs (i + 1)) (xs (i + 2)) (xs (i + 3)) hq1 hx) lw_k_L_setLoad rfl hSL_setLoad ⟨Nat.le_of_ble_eq_true rfl, Nat.le_of_ble_eq_true rfl⟩ rfl rfl (Nat.le_of_ble_eq_true rfl) dL_law_1379 rfl (by omega) ?_
  refine rj_istore (l' := (6, .int (fL_setLoad μ (xs (i + 1)) (xs (i + 2)) (xs (i + 3)))) :: ll b ω.2.2 i) dL_law_1382 rfl (rj_bl rfl) rfl ?_
  refine rj_aload_n 3 dL_law_1384 rfl rfl ?_
  refine rl_arg (kk := 1) hL hi (by decide) (by decide) 1 6 rfl rfl dL_law_1385 rfl dL_law_1386 rfl dL_law_1388 rfl dL_law_1389 rfl dL_law_1390 rfl ?_
  refine rl_arg (kk := 2) hL hi (by decide) (by decide) 1 6 rfl rfl dL_law_1391 rfl dL_law_1392 rfl dL_law_1394 rfl dL_law_1395 rfl dL_law_1396 rfl ?_
  refine rl_arg (kk := 3) hL hi (by decide) (by decide) 1 6 rfl rfl dL_law_1397 rfl dL_law_1398 rfl dL_law_1400 rfl dL_law_1401 rfl dL_law_1402 rfl ?_
  refine rl_callV (av := [.int (xs (i + 1)), .int (xs (i + 2)), .int (xs (i + 3))]) (rest := []) (sX12_setLoad (g := g) (ω := ω) hω (mL_setLoad μ (xs (i + 1)) (xs (i + 2)) (xs (i + 3))) (xs (i + 1)) (xs (i + 2)) (xs (i + 3)) hq2) lw_k_X12_setLoad (rj_lt hω (k := 395) rfl) (rj_sh hω ly_395) rfl rfl hVX12_setLoad ⟨Nat.le_of_ble_eq_true rfl, Nat.le_of_ble_eq_true rfl⟩ rfl rfl (Nat.le_of_ble_eq_true rfl) dL_law_1403 rfl (by omega) ?_
  exact rl_tailI hω (by omega) ht (fun h => (ho h).1) dL_law_1406 rfl dL_law_1408 rfl dL_law_1409 rfl dL_law_1412 rfl dL_law_1414 rfl dL_law_1419 rfl dL_law_1421 rfl rfl dL_law_1424 rfl dL_law_1425 rfl dL_law_1426 rfl dL_law_1427 rfl dL_law_1429 rfl dL_law_1430 rfl dL_law_1431 rfl dL_law_1436 rfl (K _ ω _ (by omega) hω (fun _ _ => rfl) hI2)
