set_option maxRecDepth 20000 in
theorem lw_l_wsL_setDate_r1 : ∀ w ∈ wsL_setDate_r1, w ∈ lw_tbl := (lqc lw_w24 (lqc lw_w23 (lqc lw_w22 (lqc lw_w21 (lqc lw_w20 (lqc lw_w19 (lqc lw_w18 (lqc lw_w17 (lqc lw_w16 (lqc lw_w15 (lqc lw_w14 (lqc lw_w13 (lqc lw_w12 (lqc lw_w11 (lqc lw_w10 (lqc lw_w9 (lqc lw_w8 (lqc lw_w7 (lqc lw_w6 (lqc lw_w5 (lqc lw_w4 (lqc lw_w3 (lqc lw_w2 (lqc lw_w1 lqn))))))))))))))))))))))))
set_option maxRecDepth 20000 in
theorem lw_l_wsL_setDate_r2 : ∀ w ∈ wsL_setDate_r2, w ∈ lw_tbl := (lqc lw_w48 (lqc lw_w47 (lqc lw_w46 (lqc lw_w45 (lqc lw_w44 (lqc lw_w43 (lqc lw_w42 (lqc lw_w41 (lqc lw_w40 (lqc lw_w39 (lqc lw_w38 (lqc lw_w37 (lqc lw_w36 (lqc lw_w35 (lqc lw_w34 (lqc lw_w33 (lqc lw_w32 (lqc lw_w31 (lqc lw_w30 (lqc lw_w29 (lqc lw_w28 (lqc lw_w27 (lqc lw_w26 (lqc lw_w25 lqn))))))))))))))))))))))))
set_option maxRecDepth 20000 in
theorem lw_l_wsL_setDate_r3 : ∀ w ∈ wsL_setDate_r3, w ∈ lw_tbl := (lqc lw_w72 (lqc lw_w71 (lqc lw_w70 (lqc lw_w69 (lqc lw_w68 (lqc lw_w67 (lqc lw_w66 (lqc lw_w65 (lqc lw_w64 (lqc lw_w63 (lqc lw_w62 (lqc lw_w61 (lqc lw_w60 (lqc lw_w59 (lqc lw_w58 (lqc lw_w57 (lqc lw_w56 (lqc lw_w55 (lqc lw_w54 (lqc lw_w53 (lqc lw_w52 (lqc lw_w51 (lqc lw_w50 (lqc lw_w49 lqn))))))))))))))))))))))))
set_option maxRecDepth 20000 in
theorem lw_l_wsL_setDate_r4 : ∀ w ∈ wsL_setDate_r4, w ∈ lw_tbl := (lqc lw_w96 (lqc lw_w95 (lqc lw_w94 (lqc lw_w93 (lqc lw_w92 (lqc lw_w91 (lqc lw_w90 (lqc lw_w89 (lqc lw_w88 (lqc lw_w87 (lqc lw_w86 (lqc lw_w85 (lqc lw_w84 (lqc lw_w83 (lqc lw_w82 (lqc lw_w81 (lqc lw_w80 (lqc lw_w79 (lqc lw_w78 (lqc lw_w77 (lqc lw_w76 (lqc lw_w75 (lqc lw_w74 (lqc lw_w73 lqn))))))))))))))))))))))))
set_option maxRecDepth 20000 in
theorem lw_l_wsL_setDate_r5 : ∀ w ∈ wsL_setDate_r5, w ∈ lw_tbl := (lqc lw_w120 (lqc lw_w119 (lqc lw_w118 (lqc lw_w117 (lqc lw_w116 (lqc lw_w115 (lqc lw_w114 (lqc lw_w113 (lqc lw_w112 (lqc lw_w111 (lqc lw_w110 (lqc lw_w109 (lqc lw_w108 (lqc lw_w107 (lqc lw_w106 (lqc lw_w105 (lqc lw_w104 (lqc lw_w103 (lqc lw_w102 (lqc lw_w101 (lqc lw_w100 (lqc lw_w99 (lqc lw_w98 (lqc lw_w97 lqn))))))))))))))))))))))))
set_option maxRecDepth 20000 in
theorem lw_l_wsL_setDate_r6 : ∀ w ∈ wsL_setDate_r6, w ∈ lw_tbl := (lqc lw_w144 (lqc lw_w143 (lqc lw_w142 (lqc lw_w141 (lqc lw_w140 (lqc lw_w139 (lqc lw_w138 (lqc lw_w137 (lqc lw_w136 (lqc lw_w135 (lqc lw_w134 (lqc lw_w133 (lqc lw_w132 (lqc lw_w131 (lqc lw_w130 (lqc lw_w129 (lqc lw_w128 (lqc lw_w127 (lqc lw_w126 (lqc lw_w125 (lqc lw_w124 (lqc lw_w123 (lqc lw_w122 (lqc lw_w121 lqn))))))))))))))))))))))))
set_option maxRecDepth 20000 in
theorem lw_l_wsL_setDate : ∀ w ∈ wsL_setDate, w ∈ lw_tbl := (lqc lw_w0 (lqa (lqa (lqa (lqa (lqa (lqa (lqa (lqa (lqa (lqa (lqa (lqa (lqa lw_l_wsL_setDate_r1 (lqa lw_l_wsL_setDate_r2 (lqa lw_l_wsL_setDate_r3 (lqa lw_l_wsL_setDate_r4 (lqa lw_l_wsL_setDate_r5 lw_l_wsL_setDate_r6))))) lw_u_wsX110) lw_u_wsX50) lw_u_wsX10) lw_u_wsX40) lw_u_wsX70) lw_u_wsX30) lw_u_wsX00) lw_u_wsX100) lw_u_wsX60) lw_u_wsX80) lw_u_wsX90) lw_x0))
set_option maxRecDepth 20000 in
theorem lw_l_wsL_setOpen_r1 : ∀ w ∈ wsL_setOpen_r1, w ∈ lw_tbl := (lqc lw_w156 (lqc lw_w155 (lqc lw_w154 (lqc lw_w153 (lqc lw_w20 (lqc lw_w152 (lqc lw_w16 (lqc lw_w151 (lqc lw_w150 (lqc lw_w149 (lqc lw_w148 (lqc lw_w147 (lqc lw_w146 (lqc lw_w4 (lqc lw_w3 (lqc lw_w2 (lqc lw_w1 (lqc lw_w48 (lqc lw_w47 (lqc lw_w46 (lqc lw_w45 (lqc lw_w44 (lqc lw_w43 (lqc lw_w42 lqn))))))))))))))))))))))))
set_option maxRecDepth 20000 in
theorem lw_l_wsL_setOpen_r2 : ∀ w ∈ wsL_setOpen_r2, w ∈ lw_tbl := (lqc lw_w41 (lqc lw_w40 (lqc lw_w39 (lqc lw_w38 (lqc lw_w37 (lqc lw_w36 (lqc lw_w35 (lqc lw_w34 (lqc lw_w33 (lqc lw_w32 (lqc lw_w31 (lqc lw_w30 (lqc lw_w29 (lqc lw_w28 (lqc lw_w27 (lqc lw_w26 (lqc lw_w25 (lqc lw_w72 (lqc lw_w71 (lqc lw_w70 (lqc lw_w69 (lqc lw_w12 (lqc lw_w68 (lqc lw_w67 lqn))))))))))))))))))))))))
set_option maxRecDepth 20000 in
theorem lw_l_wsL_setOpen_r3 : ∀ w ∈ wsL_setOpen_r3, w ∈ lw_tbl := (lqc lw_w66 (lqc lw_w65 (lqc lw_w64 (lqc lw_w63 (lqc lw_w62 (lqc lw_w61 (lqc lw_w60 (lqc lw_w59 (lqc lw_w58 (lqc lw_w57 (lqc lw_w56 (lqc lw_w55 (lqc lw_w54 (lqc lw_w53 (lqc lw_w52 (lqc lw_w51 (lqc lw_w50 (lqc lw_w49 (lqc lw_w96 (lqc lw_w95 (lqc lw_w94 (lqc lw_w93 (lqc lw_w92 (lqc lw_w91 lqn))))))))))))))))))))))))
set_option maxRecDepth 20000 in
theorem lw_l_wsL_setOpen_r4 : ∀ w ∈ wsL_setOpen_r4, w ∈ lw_tbl := (lqc lw_w90 (lqc lw_w89 (lqc lw_w88 (lqc lw_w87 (lqc lw_w86 (lqc lw_w85 (lqc lw_w84 (lqc lw_w83 (lqc lw_w82 (lqc lw_w81 (lqc lw_w80 (lqc lw_w79 (lqc lw_w78 (lqc lw_w77 (lqc lw_w76 (lqc lw_w75 (lqc lw_w74 (lqc lw_w73 (lqc lw_w120 (lqc lw_w119 (lqc lw_w118 (lqc lw_w117 (lqc lw_w116 (lqc lw_w115 lqn))))))))))))))))))))))))
set_option maxRecDepth 20000 in
theorem lw_l_wsL_setOpen_r5 : ∀ w ∈ wsL_setOpen_r5, w ∈ lw_tbl := (lqc lw_w114 (lqc lw_w113 (lqc lw_w112 (lqc lw_w111 (lqc lw_w110 (lqc lw_w109 (lqc lw_w108 (lqc lw_w107 (lqc lw_w106 (lqc lw_w105 (lqc lw_w104 (lqc lw_w103 (lqc lw_w102 (lqc lw_w101 (lqc lw_w100 (lqc lw_w99 (lqc lw_w98 (lqc lw_w97 (lqc lw_w144 (lqc lw_w143 (lqc lw_w142 (lqc lw_w141 (lqc lw_w140 (lqc lw_w139 lqn))))))))))))))))))))))))
set_option maxRecDepth 20000 in
theorem lw_l_wsL_setOpen_r6 : ∀ w ∈ wsL_setOpen_r6, w ∈ lw_tbl := (lqc lw_w138 (lqc lw_w137 (lqc lw_w136 (lqc lw_w135 (lqc lw_w134 (lqc lw_w133 (lqc lw_w132 (lqc lw_w131 (lqc lw_w130 (lqc lw_w129 (lqc lw_w128 (lqc lw_w127 (lqc lw_w126 (lqc lw_w164 (lqc lw_w163 (lqc lw_w162 (lqc lw_w161 (lqc lw_w160 (lqc lw_w159 (lqc lw_w158 (lqc lw_w157 lqn)))))))))))))))))))))
set_option maxRecDepth 20000 in
theorem lw_l_wsL_setOpen : ∀ w ∈ wsL_setOpen, w ∈ lw_tbl := (lqc lw_w145 (lqa (lqa (lqa (lqa (lqa (lqa (lqa (lqa (lqa (lqa (lqa (lqa (lqa lw_l_wsL_setOpen_r1 (lqa lw_l_wsL_setOpen_r2 (lqa lw_l_wsL_setOpen_r3 (lqa lw_l_wsL_setOpen_r4 (lqa lw_l_wsL_setOpen_r5 lw_l_wsL_setOpen_r6))))) lw_u_wsX110) lw_u_wsX50) lw_u_wsX10) lw_u_wsX40) lw_u_wsX70) lw_u_wsX30) lw_u_wsX00) lw_u_wsX100) lw_u_wsX60) lw_u_wsX80) lw_u_wsX90) lw_x1))
set_option maxRecDepth 20000 in
theorem lw_l_wsL_setWay_r1 : ∀ w ∈ wsL_setWay_r1, w ∈ lw_tbl := (lqc lw_w156 (lqc lw_w24 (lqc lw_w175 (lqc lw_w174 (lqc lw_w173 (lqc lw_w20 (lqc lw_w172 (lqc lw_w16 (lqc lw_w151 (lqc lw_w150 (lqc lw_w149 (lqc lw_w148 (lqc lw_w147 (lqc lw_w146 (lqc lw_w171 (lqc lw_w170 (lqc lw_w169 (lqc lw_w18 (lqc lw_w17 (lqc lw_w168 (lqc lw_w167 (lqc lw_w166 (lqc lw_w4 (lqc lw_w3 lqn))))))))))))))))))))))))
set_option maxRecDepth 20000 in
theorem lw_l_wsL_setWay_r2 : ∀ w ∈ wsL_setWay_r2, w ∈ lw_tbl := (lqc lw_w2 (lqc lw_w1 (lqc lw_w48 (lqc lw_w47 (lqc lw_w46 (lqc lw_w45 (lqc lw_w44 (lqc lw_w43 (lqc lw_w42 (lqc lw_w41 (lqc lw_w40 (lqc lw_w39 (lqc lw_w38 (lqc lw_w37 (lqc lw_w36 (lqc lw_w35 (lqc lw_w34 (lqc lw_w33 (lqc lw_w32 (lqc lw_w31 (lqc lw_w30 (lqc lw_w29 (lqc lw_w28 (lqc lw_w27 lqn))))))))))))))))))))))))
set_option maxRecDepth 20000 in
theorem lw_l_wsL_setWay_r3 : ∀ w ∈ wsL_setWay_r3, w ∈ lw_tbl := (lqc lw_w26 (lqc lw_w25 (lqc lw_w72 (lqc lw_w71 (lqc lw_w70 (lqc lw_w69 (lqc lw_w12 (lqc lw_w68 (lqc lw_w67 (lqc lw_w66 (lqc lw_w65 (lqc lw_w64 (lqc lw_w63 (lqc lw_w62 (lqc lw_w61 (lqc lw_w60 (lqc lw_w59 (lqc lw_w58 (lqc lw_w57 (lqc lw_w56 (lqc lw_w55 (lqc lw_w54 (lqc lw_w53 (lqc lw_w52 lqn))))))))))))))))))))))))
set_option maxRecDepth 20000 in
theorem lw_l_wsL_setWay_r4 : ∀ w ∈ wsL_setWay_r4, w ∈ lw_tbl := (lqc lw_w51 (lqc lw_w50 (lqc lw_w49 (lqc lw_w96 (lqc lw_w95 (lqc lw_w94 (lqc lw_w93 (lqc lw_w92 (lqc lw_w91 (lqc lw_w90 (lqc lw_w89 (lqc lw_w88 (lqc lw_w87 (lqc lw_w86 (lqc lw_w85 (lqc lw_w84 (lqc lw_w83 (lqc lw_w82 (lqc lw_w81 (lqc lw_w80 (lqc lw_w79 (lqc lw_w78 (lqc lw_w77 (lqc lw_w76 lqn))))))))))))))))))))))))
set_option maxRecDepth 20000 in
theorem lw_l_wsL_setWay_r5 : ∀ w ∈ wsL_setWay_r5, w ∈ lw_tbl := (lqc lw_w75 (lqc lw_w74 (lqc lw_w73 (lqc lw_w120 (lqc lw_w119 (lqc lw_w118 (lqc lw_w117 (lqc lw_w116 (lqc lw_w115 (lqc lw_w114 (lqc lw_w113 (lqc lw_w112 (lqc lw_w111 (lqc lw_w110 (lqc lw_w109 (lqc lw_w108 (lqc lw_w107 (lqc lw_w106 (lqc lw_w105 (lqc lw_w104 (lqc lw_w103 (lqc lw_w102 (lqc lw_w101 (lqc lw_w100 lqn))))))))))))))))))))))))
set_option maxRecDepth 20000 in
theorem lw_l_wsL_setWay_r6 : ∀ w ∈ wsL_setWay_r6, w ∈ lw_tbl := (lqc lw_w99 (lqc lw_w98 (lqc lw_w97 (lqc lw_w144 (lqc lw_w143 (lqc lw_w142 (lqc lw_w141 (lqc lw_w140 (lqc lw_w139 (lqc lw_w138 (lqc lw_w137 (lqc lw_w136 (lqc lw_w135 (lqc lw_w134 (lqc lw_w133 (lqc lw_w132 (lqc lw_w131 (lqc lw_w130 (lqc lw_w129 (lqc lw_w128 (lqc lw_w127 (lqc lw_w126 (lqc lw_w177 (lqc lw_w176 lqn))))))))))))))))))))))))
set_option maxRecDepth 20000 in
theorem lw_l_wsL_setWay_r7 : ∀ w ∈ wsL_setWay_r7, w ∈ lw_tbl := (lqc lw_w190 (lqc lw_w189 (lqc lw_w188 (lqc lw_w187 (lqc lw_w186 (lqc lw_w185 (lqc lw_w184 (lqc lw_w183 (lqc lw_w182 (lqc lw_w181 (lqc lw_w180 (lqc lw_w179 (lqc lw_w178 lqn)))))))))))))
set_option maxRecDepth 20000 in
theorem lw_l_wsL_setWay : ∀ w ∈ wsL_setWay, w ∈ lw_tbl := (lqc lw_w165 (lqa (lqa (lqa (lqa (lqa (lqa (lqa (lqa (lqa (lqa (lqa (lqa (lqa (lqa lw_l_wsL_setWay_r1 (lqa lw_l_wsL_setWay_r2 (lqa lw_l_wsL_setWay_r3 (lqa lw_l_wsL_setWay_r4 (lqa lw_l_wsL_setWay_r5 (lqa lw_l_wsL_setWay_r6 lw_l_wsL_setWay_r7)))))) lw_u_wsX110) lw_u_wsX50) lw_u_wsX10) lw_u_wsX40) lw_u_wsX70) lw_u_wsX30) lw_u_wsX00) lw_u_wsX100) lw_u_wsX60) lw_u_wsX80) lw_u_wsX90) lw_x1) lw_x0))
set_option maxRecDepth 20000 in
theorem lw_l_wsL_act_r1 : ∀ w ∈ wsL_act_r1, w ∈ lw_tbl := (lqc lw_w156 (lqc lw_w24 (lqc lw_w201 (lqc lw_w200 (lqc lw_w199 (lqc lw_w198 (lqc lw_w20 (lqc lw_w197 (lqc lw_w196 (lqc lw_w195 (lqc lw_w16 (lqc lw_w194 (lqc lw_w150 (lqc lw_w149 (lqc lw_w148 (lqc lw_w147 (lqc lw_w146 (lqc lw_w168 (lqc lw_w167 (lqc lw_w166 (lqc lw_w18 (lqc lw_w17 (lqc lw_w193 (lqc lw_w192 lqn))))))))))))))))))))))))
set_option maxRecDepth 20000 in
theorem lw_l_wsL_act_r2 : ∀ w ∈ wsL_act_r2, w ∈ lw_tbl := (lqc lw_w207 (lqc lw_w90 (lqc lw_w206 (lqc lw_w205 (lqc lw_w204 (lqc lw_w203 (lqc lw_w202 (lqc lw_w84 (lqc lw_w4 (lqc lw_w3 (lqc lw_w2 (lqc lw_w1 (lqc lw_w48 (lqc lw_w47 (lqc lw_w46 (lqc lw_w45 (lqc lw_w44 (lqc lw_w43 (lqc lw_w42 (lqc lw_w41 (lqc lw_w40 (lqc lw_w39 (lqc lw_w38 (lqc lw_w37 lqn))))))))))))))))))))))))
set_option maxRecDepth 20000 in
theorem lw_l_wsL_act_r3 : ∀ w ∈ wsL_act_r3, w ∈ lw_tbl := (lqc lw_w36 (lqc lw_w35 (lqc lw_w34 (lqc lw_w33 (lqc lw_w32 (lqc lw_w31 (lqc lw_w30 (lqc lw_w29 (lqc lw_w28 (lqc lw_w27 (lqc lw_w26 (lqc lw_w25 (lqc lw_w72 (lqc lw_w71 (lqc lw_w70 (lqc lw_w69 (lqc lw_w12 (lqc lw_w68 (lqc lw_w67 (lqc lw_w66 (lqc lw_w65 (lqc lw_w64 (lqc lw_w63 (lqc lw_w62 lqn))))))))))))))))))))))))
set_option maxRecDepth 20000 in
theorem lw_l_wsL_act_r4 : ∀ w ∈ wsL_act_r4, w ∈ lw_tbl := (lqc lw_w61 (lqc lw_w60 (lqc lw_w59 (lqc lw_w58 (lqc lw_w57 (lqc lw_w56 (lqc lw_w55 (lqc lw_w54 (lqc lw_w53 (lqc lw_w52 (lqc lw_w51 (lqc lw_w50 (lqc lw_w49 (lqc lw_w96 (lqc lw_w95 (lqc lw_w94 (lqc lw_w93 (lqc lw_w92 (lqc lw_w91 (lqc lw_w89 (lqc lw_w88 (lqc lw_w87 (lqc lw_w86 (lqc lw_w85 lqn))))))))))))))))))))))))
set_option maxRecDepth 20000 in
theorem lw_l_wsL_act_r5 : ∀ w ∈ wsL_act_r5, w ∈ lw_tbl := (lqc lw_w83 (lqc lw_w82 (lqc lw_w81 (lqc lw_w80 (lqc lw_w79 (lqc lw_w78 (lqc lw_w77 (lqc lw_w76 (lqc lw_w75 (lqc lw_w74 (lqc lw_w73 (lqc lw_w120 (lqc lw_w119 (lqc lw_w118 (lqc lw_w117 (lqc lw_w116 (lqc lw_w115 (lqc lw_w114 (lqc lw_w113 (lqc lw_w112 (lqc lw_w111 (lqc lw_w110 (lqc lw_w109 (lqc lw_w108 lqn))))))))))))))))))))))))
set_option maxRecDepth 20000 in
theorem lw_l_wsL_act_r6 : ∀ w ∈ wsL_act_r6, w ∈ lw_tbl := (lqc lw_w107 (lqc lw_w106 (lqc lw_w105 (lqc lw_w104 (lqc lw_w103 (lqc lw_w102 (lqc lw_w101 (lqc lw_w100 (lqc lw_w99 (lqc lw_w98 (lqc lw_w97 (lqc lw_w144 (lqc lw_w143 (lqc lw_w142 (lqc lw_w141 (lqc lw_w140 (lqc lw_w139 (lqc lw_w138 (lqc lw_w137 (lqc lw_w136 (lqc lw_w135 (lqc lw_w134 (lqc lw_w133 (lqc lw_w132 lqn))))))))))))))))))))))))
set_option maxRecDepth 20000 in
theorem lw_l_wsL_act_r7 : ∀ w ∈ wsL_act_r7, w ∈ lw_tbl := (lqc lw_w131 (lqc lw_w130 (lqc lw_w129 (lqc lw_w128 (lqc lw_w127 (lqc lw_w126 (lqc lw_w211 (lqc lw_w210 (lqc lw_w209 (lqc lw_w208 (lqc lw_w188 (lqc lw_w187 lqn))))))))))))
set_option maxRecDepth 20000 in
theorem lw_l_wsL_act : ∀ w ∈ wsL_act, w ∈ lw_tbl := (lqc lw_w191 (lqa (lqa (lqa (lqa (lqa (lqa (lqa (lqa (lqa (lqa (lqa (lqa (lqa (lqa (lqa lw_l_wsL_act_r1 (lqa lw_l_wsL_act_r2 (lqa lw_l_wsL_act_r3 (lqa lw_l_wsL_act_r4 (lqa lw_l_wsL_act_r5 (lqa lw_l_wsL_act_r6 lw_l_wsL_act_r7)))))) lw_u_wsX110) lw_u_wsX50) lw_u_wsX70) lw_u_wsX10) lw_u_wsX40) lw_u_wsX30) lw_u_wsX00) lw_u_wsX100) lw_u_wsX60) lw_u_wsX80) lw_u_wsX90) lw_x2) lw_x1) lw_x0))
set_option maxRecDepth 20000 in
theorem lw_l_wsL_drop_r1 : ∀ w ∈ wsL_drop_r1, w ∈ lw_tbl := (lqc lw_w156 (lqc lw_w221 (lqc lw_w220 (lqc lw_w219 (lqc lw_w20 (lqc lw_w218 (lqc lw_w16 (lqc lw_w194 (lqc lw_w217 (lqc lw_w216 (lqc lw_w215 (lqc lw_w214 (lqc lw_w147 (lqc lw_w146 (lqc lw_w213 (lqc lw_w204 (lqc lw_w203 (lqc lw_w90 (lqc lw_w202 (lqc lw_w84 (lqc lw_w4 (lqc lw_w3 (lqc lw_w2 (lqc lw_w1 lqn))))))))))))))))))))))))
set_option maxRecDepth 20000 in
theorem lw_l_wsL_drop_r2 : ∀ w ∈ wsL_drop_r2, w ∈ lw_tbl := (lqc lw_w48 (lqc lw_w47 (lqc lw_w46 (lqc lw_w45 (lqc lw_w44 (lqc lw_w43 (lqc lw_w42 (lqc lw_w41 (lqc lw_w40 (lqc lw_w39 (lqc lw_w38 (lqc lw_w37 (lqc lw_w36 (lqc lw_w35 (lqc lw_w34 (lqc lw_w33 (lqc lw_w32 (lqc lw_w31 (lqc lw_w30 (lqc lw_w29 (lqc lw_w28 (lqc lw_w27 (lqc lw_w26 (lqc lw_w25 lqn))))))))))))))))))))))))
set_option maxRecDepth 20000 in
theorem lw_l_wsL_drop_r3 : ∀ w ∈ wsL_drop_r3, w ∈ lw_tbl := (lqc lw_w72 (lqc lw_w71 (lqc lw_w70 (lqc lw_w69 (lqc lw_w12 (lqc lw_w68 (lqc lw_w67 (lqc lw_w66 (lqc lw_w65 (lqc lw_w64 (lqc lw_w63 (lqc lw_w62 (lqc lw_w61 (lqc lw_w60 (lqc lw_w59 (lqc lw_w58 (lqc lw_w57 (lqc lw_w56 (lqc lw_w55 (lqc lw_w54 (lqc lw_w53 (lqc lw_w52 (lqc lw_w51 (lqc lw_w50 lqn))))))))))))))))))))))))
set_option maxRecDepth 20000 in
theorem lw_l_wsL_drop_r4 : ∀ w ∈ wsL_drop_r4, w ∈ lw_tbl := (lqc lw_w49 (lqc lw_w96 (lqc lw_w95 (lqc lw_w94 (lqc lw_w93 (lqc lw_w92 (lqc lw_w91 (lqc lw_w89 (lqc lw_w88 (lqc lw_w87 (lqc lw_w86 (lqc lw_w85 (lqc lw_w83 (lqc lw_w82 (lqc lw_w81 (lqc lw_w80 (lqc lw_w79 (lqc lw_w78 (lqc lw_w77 (lqc lw_w76 (lqc lw_w75 (lqc lw_w74 (lqc lw_w73 (lqc lw_w120 lqn))))))))))))))))))))))))
set_option maxRecDepth 20000 in
theorem lw_l_wsL_drop_r5 : ∀ w ∈ wsL_drop_r5, w ∈ lw_tbl := (lqc lw_w119 (lqc lw_w118 (lqc lw_w117 (lqc lw_w116 (lqc lw_w115 (lqc lw_w114 (lqc lw_w113 (lqc lw_w112 (lqc lw_w111 (lqc lw_w110 (lqc lw_w109 (lqc lw_w108 (lqc lw_w107 (lqc lw_w106 (lqc lw_w105 (lqc lw_w104 (lqc lw_w103 (lqc lw_w102 (lqc lw_w101 (lqc lw_w100 (lqc lw_w99 (lqc lw_w98 (lqc lw_w97 (lqc lw_w144 lqn))))))))))))))))))))))))
set_option maxRecDepth 20000 in
theorem lw_l_wsL_drop_r6 : ∀ w ∈ wsL_drop_r6, w ∈ lw_tbl := (lqc lw_w143 (lqc lw_w142 (lqc lw_w141 (lqc lw_w140 (lqc lw_w139 (lqc lw_w138 (lqc lw_w137 (lqc lw_w136 (lqc lw_w135 (lqc lw_w134 (lqc lw_w133 (lqc lw_w132 (lqc lw_w131 (lqc lw_w130 (lqc lw_w129 (lqc lw_w128 (lqc lw_w127 (lqc lw_w126 (lqc lw_w227 (lqc lw_w226 (lqc lw_w225 (lqc lw_w224 (lqc lw_w223 (lqc lw_w222 lqn))))))))))))))))))))))))
set_option maxRecDepth 20000 in
theorem lw_l_wsL_drop_r7 : ∀ w ∈ wsL_drop_r7, w ∈ lw_tbl := (lqc lw_w233 (lqc lw_w232 (lqc lw_w205 (lqc lw_w231 (lqc lw_w230 (lqc lw_w229 (lqc lw_w228 (lqc lw_w188 (lqc lw_w187 lqn)))))))))
set_option maxRecDepth 20000 in
theorem lw_l_wsL_drop : ∀ w ∈ wsL_drop, w ∈ lw_tbl := (lqc lw_w212 (lqa (lqa (lqa (lqa (lqa (lqa (lqa (lqa (lqa (lqa (lqa (lqa (lqa lw_l_wsL_drop_r1 (lqa lw_l_wsL_drop_r2 (lqa lw_l_wsL_drop_r3 (lqa lw_l_wsL_drop_r4 (lqa lw_l_wsL_drop_r5 (lqa lw_l_wsL_drop_r6 lw_l_wsL_drop_r7)))))) lw_u_wsX110) lw_u_wsX50) lw_u_wsX70) lw_u_wsX10) lw_u_wsX40) lw_u_wsX30) lw_u_wsX00) lw_u_wsX100) lw_u_wsX60) lw_u_wsX80) lw_u_wsX90) lw_x1))
set_option maxRecDepth 20000 in
theorem lw_l_wsL_wish_r1 : ∀ w ∈ wsL_wish_r1, w ∈ lw_tbl := (lqc lw_w156 (lqc lw_w24 (lqc lw_w239 (lqc lw_w238 (lqc lw_w237 (lqc lw_w20 (lqc lw_w236 (lqc lw_w16 (lqc lw_w194 (lqc lw_w235 (lqc lw_w150 (lqc lw_w149 (lqc lw_w148 (lqc lw_w147 (lqc lw_w146 (lqc lw_w217 (lqc lw_w216 (lqc lw_w215 (lqc lw_w214 (lqc lw_w213 (lqc lw_w204 (lqc lw_w203 (lqc lw_w90 (lqc lw_w202 lqn))))))))))))))))))))))))
set_option maxRecDepth 20000 in
theorem lw_l_wsL_wish_r2 : ∀ w ∈ wsL_wish_r2, w ∈ lw_tbl := (lqc lw_w84 (lqc lw_w168 (lqc lw_w167 (lqc lw_w166 (lqc lw_w18 (lqc lw_w17 (lqc lw_w4 (lqc lw_w3 (lqc lw_w2 (lqc lw_w1 (lqc lw_w48 (lqc lw_w47 (lqc lw_w46 (lqc lw_w45 (lqc lw_w44 (lqc lw_w43 (lqc lw_w42 (lqc lw_w41 (lqc lw_w40 (lqc lw_w39 (lqc lw_w38 (lqc lw_w37 (lqc lw_w36 (lqc lw_w35 lqn))))))))))))))))))))))))
set_option maxRecDepth 20000 in
theorem lw_l_wsL_wish_r3 : ∀ w ∈ wsL_wish_r3, w ∈ lw_tbl := (lqc lw_w34 (lqc lw_w33 (lqc lw_w32 (lqc lw_w31 (lqc lw_w30 (lqc lw_w29 (lqc lw_w28 (lqc lw_w27 (lqc lw_w26 (lqc lw_w25 (lqc lw_w72 (lqc lw_w71 (lqc lw_w70 (lqc lw_w69 (lqc lw_w12 (lqc lw_w68 (lqc lw_w67 (lqc lw_w66 (lqc lw_w65 (lqc lw_w64 (lqc lw_w63 (lqc lw_w62 (lqc lw_w61 (lqc lw_w60 lqn))))))))))))))))))))))))
set_option maxRecDepth 20000 in
theorem lw_l_wsL_wish_r4 : ∀ w ∈ wsL_wish_r4, w ∈ lw_tbl := (lqc lw_w59 (lqc lw_w58 (lqc lw_w57 (lqc lw_w56 (lqc lw_w55 (lqc lw_w54 (lqc lw_w53 (lqc lw_w52 (lqc lw_w51 (lqc lw_w50 (lqc lw_w49 (lqc lw_w96 (lqc lw_w95 (lqc lw_w94 (lqc lw_w93 (lqc lw_w92 (lqc lw_w91 (lqc lw_w89 (lqc lw_w88 (lqc lw_w87 (lqc lw_w86 (lqc lw_w85 (lqc lw_w83 (lqc lw_w82 lqn))))))))))))))))))))))))
set_option maxRecDepth 20000 in
theorem lw_l_wsL_wish_r5 : ∀ w ∈ wsL_wish_r5, w ∈ lw_tbl := (lqc lw_w81 (lqc lw_w80 (lqc lw_w79 (lqc lw_w78 (lqc lw_w77 (lqc lw_w76 (lqc lw_w75 (lqc lw_w74 (lqc lw_w73 (lqc lw_w120 (lqc lw_w119 (lqc lw_w118 (lqc lw_w117 (lqc lw_w116 (lqc lw_w115 (lqc lw_w114 (lqc lw_w113 (lqc lw_w112 (lqc lw_w111 (lqc lw_w110 (lqc lw_w109 (lqc lw_w108 (lqc lw_w107 (lqc lw_w106 lqn))))))))))))))))))))))))
set_option maxRecDepth 20000 in
theorem lw_l_wsL_wish_r6 : ∀ w ∈ wsL_wish_r6, w ∈ lw_tbl := (lqc lw_w105 (lqc lw_w104 (lqc lw_w103 (lqc lw_w102 (lqc lw_w101 (lqc lw_w100 (lqc lw_w99 (lqc lw_w98 (lqc lw_w97 (lqc lw_w144 (lqc lw_w143 (lqc lw_w142 (lqc lw_w141 (lqc lw_w140 (lqc lw_w139 (lqc lw_w138 (lqc lw_w137 (lqc lw_w136 (lqc lw_w135 (lqc lw_w134 (lqc lw_w133 (lqc lw_w132 (lqc lw_w131 (lqc lw_w130 lqn))))))))))))))))))))))))
set_option maxRecDepth 20000 in
theorem lw_l_wsL_wish_r7 : ∀ w ∈ wsL_wish_r7, w ∈ lw_tbl := (lqc lw_w129 (lqc lw_w128 (lqc lw_w127 (lqc lw_w126 (lqc lw_w240 (lqc lw_w188 (lqc lw_w187 lqn)))))))
set_option maxRecDepth 20000 in
theorem lw_l_wsL_wish : ∀ w ∈ wsL_wish, w ∈ lw_tbl := (lqc lw_w234 (lqa (lqa (lqa (lqa (lqa (lqa (lqa (lqa (lqa (lqa (lqa (lqa (lqa (lqa lw_l_wsL_wish_r1 (lqa lw_l_wsL_wish_r2 (lqa lw_l_wsL_wish_r3 (lqa lw_l_wsL_wish_r4 (lqa lw_l_wsL_wish_r5 (lqa lw_l_wsL_wish_r6 lw_l_wsL_wish_r7)))))) lw_u_wsX110) lw_u_wsX50) lw_u_wsX70) lw_u_wsX10) lw_u_wsX40) lw_u_wsX30) lw_u_wsX00) lw_u_wsX100) lw_u_wsX60) lw_u_wsX80) lw_u_wsX90) lw_x1) lw_x0))
set_option maxRecDepth 20000 in
theorem lw_l_wsL_setGate_r1 : ∀ w ∈ wsL_setGate_r1, w ∈ lw_tbl := (lqc lw_w156 (lqc lw_w24 (lqc lw_w247 (lqc lw_w246 (lqc lw_w245 (lqc lw_w20 (lqc lw_w244 (lqc lw_w16 (lqc lw_w243 (lqc lw_w242 (lqc lw_w150 (lqc lw_w149 (lqc lw_w148 (lqc lw_w147 (lqc lw_w146 (lqc lw_w168 (lqc lw_w167 (lqc lw_w166 (lqc lw_w18 (lqc lw_w17 (lqc lw_w4 (lqc lw_w3 (lqc lw_w2 (lqc lw_w1 lqn))))))))))))))))))))))))
set_option maxRecDepth 20000 in
theorem lw_l_wsL_setGate_r2 : ∀ w ∈ wsL_setGate_r2, w ∈ lw_tbl := (lqc lw_w48 (lqc lw_w47 (lqc lw_w46 (lqc lw_w45 (lqc lw_w44 (lqc lw_w43 (lqc lw_w42 (lqc lw_w41 (lqc lw_w40 (lqc lw_w39 (lqc lw_w38 (lqc lw_w37 (lqc lw_w36 (lqc lw_w35 (lqc lw_w34 (lqc lw_w33 (lqc lw_w32 (lqc lw_w31 (lqc lw_w30 (lqc lw_w29 (lqc lw_w28 (lqc lw_w27 (lqc lw_w26 (lqc lw_w25 lqn))))))))))))))))))))))))
set_option maxRecDepth 20000 in
theorem lw_l_wsL_setGate_r3 : ∀ w ∈ wsL_setGate_r3, w ∈ lw_tbl := (lqc lw_w72 (lqc lw_w71 (lqc lw_w70 (lqc lw_w69 (lqc lw_w12 (lqc lw_w68 (lqc lw_w67 (lqc lw_w66 (lqc lw_w65 (lqc lw_w64 (lqc lw_w63 (lqc lw_w62 (lqc lw_w61 (lqc lw_w60 (lqc lw_w59 (lqc lw_w58 (lqc lw_w57 (lqc lw_w56 (lqc lw_w55 (lqc lw_w54 (lqc lw_w53 (lqc lw_w52 (lqc lw_w51 (lqc lw_w50 lqn))))))))))))))))))))))))
set_option maxRecDepth 20000 in
theorem lw_l_wsL_setGate_r4 : ∀ w ∈ wsL_setGate_r4, w ∈ lw_tbl := (lqc lw_w49 (lqc lw_w96 (lqc lw_w95 (lqc lw_w94 (lqc lw_w93 (lqc lw_w92 (lqc lw_w91 (lqc lw_w90 (lqc lw_w89 (lqc lw_w88 (lqc lw_w87 (lqc lw_w86 (lqc lw_w85 (lqc lw_w84 (lqc lw_w83 (lqc lw_w82 (lqc lw_w81 (lqc lw_w80 (lqc lw_w79 (lqc lw_w78 (lqc lw_w77 (lqc lw_w76 (lqc lw_w75 (lqc lw_w74 lqn))))))))))))))))))))))))
set_option maxRecDepth 20000 in
theorem lw_l_wsL_setGate_r5 : ∀ w ∈ wsL_setGate_r5, w ∈ lw_tbl := (lqc lw_w73 (lqc lw_w120 (lqc lw_w119 (lqc lw_w118 (lqc lw_w117 (lqc lw_w116 (lqc lw_w115 (lqc lw_w114 (lqc lw_w113 (lqc lw_w112 (lqc lw_w111 (lqc lw_w110 (lqc lw_w109 (lqc lw_w108 (lqc lw_w107 (lqc lw_w106 (lqc lw_w105 (lqc lw_w104 (lqc lw_w103 (lqc lw_w102 (lqc lw_w101 (lqc lw_w100 (lqc lw_w99 (lqc lw_w98 lqn))))))))))))))))))))))))
set_option maxRecDepth 20000 in
theorem lw_l_wsL_setGate_r6 : ∀ w ∈ wsL_setGate_r6, w ∈ lw_tbl := (lqc lw_w97 (lqc lw_w144 (lqc lw_w143 (lqc lw_w142 (lqc lw_w141 (lqc lw_w140 (lqc lw_w139 (lqc lw_w138 (lqc lw_w137 (lqc lw_w136 (lqc lw_w135 (lqc lw_w134 (lqc lw_w133 (lqc lw_w132 (lqc lw_w131 (lqc lw_w130 (lqc lw_w129 (lqc lw_w128 (lqc lw_w127 (lqc lw_w126 (lqc lw_w240 (lqc lw_w188 (lqc lw_w187 lqn)))))))))))))))))))))))
set_option maxRecDepth 20000 in
theorem lw_l_wsL_setGate : ∀ w ∈ wsL_setGate, w ∈ lw_tbl := (lqc lw_w241 (lqa (lqa (lqa (lqa (lqa (lqa (lqa (lqa (lqa (lqa (lqa (lqa (lqa (lqa lw_l_wsL_setGate_r1 (lqa lw_l_wsL_setGate_r2 (lqa lw_l_wsL_setGate_r3 (lqa lw_l_wsL_setGate_r4 (lqa lw_l_wsL_setGate_r5 lw_l_wsL_setGate_r6))))) lw_u_wsX110) lw_u_wsX50) lw_u_wsX30) lw_u_wsX10) lw_u_wsX40) lw_u_wsX70) lw_u_wsX00) lw_u_wsX100) lw_u_wsX60) lw_u_wsX80) lw_u_wsX90) lw_x1) lw_x0))
set_option maxRecDepth 20000 in
theorem lw_l_wsL_setReach_r1 : ∀ w ∈ wsL_setReach_r1, w ∈ lw_tbl := (lqc lw_w156 (lqc lw_w24 (lqc lw_w253 (lqc lw_w252 (lqc lw_w251 (lqc lw_w20 (lqc lw_w250 (lqc lw_w16 (lqc lw_w243 (lqc lw_w249 (lqc lw_w150 (lqc lw_w149 (lqc lw_w148 (lqc lw_w147 (lqc lw_w146 (lqc lw_w168 (lqc lw_w167 (lqc lw_w166 (lqc lw_w18 (lqc lw_w17 (lqc lw_w4 (lqc lw_w3 (lqc lw_w2 (lqc lw_w1 lqn))))))))))))))))))))))))
set_option maxRecDepth 20000 in
theorem lw_l_wsL_setReach_r2 : ∀ w ∈ wsL_setReach_r2, w ∈ lw_tbl := (lqc lw_w48 (lqc lw_w47 (lqc lw_w46 (lqc lw_w45 (lqc lw_w44 (lqc lw_w43 (lqc lw_w42 (lqc lw_w41 (lqc lw_w40 (lqc lw_w39 (lqc lw_w38 (lqc lw_w37 (lqc lw_w36 (lqc lw_w35 (lqc lw_w34 (lqc lw_w33 (lqc lw_w32 (lqc lw_w31 (lqc lw_w30 (lqc lw_w29 (lqc lw_w28 (lqc lw_w27 (lqc lw_w26 (lqc lw_w25 lqn))))))))))))))))))))))))
set_option maxRecDepth 20000 in
theorem lw_l_wsL_setReach_r3 : ∀ w ∈ wsL_setReach_r3, w ∈ lw_tbl := (lqc lw_w72 (lqc lw_w71 (lqc lw_w70 (lqc lw_w69 (lqc lw_w12 (lqc lw_w68 (lqc lw_w67 (lqc lw_w66 (lqc lw_w65 (lqc lw_w64 (lqc lw_w63 (lqc lw_w62 (lqc lw_w61 (lqc lw_w60 (lqc lw_w59 (lqc lw_w58 (lqc lw_w57 (lqc lw_w56 (lqc lw_w55 (lqc lw_w54 (lqc lw_w53 (lqc lw_w52 (lqc lw_w51 (lqc lw_w50 lqn))))))))))))))))))))))))
set_option maxRecDepth 20000 in
theorem lw_l_wsL_setReach_r4 : ∀ w ∈ wsL_setReach_r4, w ∈ lw_tbl := (lqc lw_w49 (lqc lw_w96 (lqc lw_w95 (lqc lw_w94 (lqc lw_w93 (lqc lw_w92 (lqc lw_w91 (lqc lw_w90 (lqc lw_w89 (lqc lw_w88 (lqc lw_w87 (lqc lw_w86 (lqc lw_w85 (lqc lw_w84 (lqc lw_w83 (lqc lw_w82 (lqc lw_w81 (lqc lw_w80 (lqc lw_w79 (lqc lw_w78 (lqc lw_w77 (lqc lw_w76 (lqc lw_w75 (lqc lw_w74 lqn))))))))))))))))))))))))
set_option maxRecDepth 20000 in
theorem lw_l_wsL_setReach_r5 : ∀ w ∈ wsL_setReach_r5, w ∈ lw_tbl := (lqc lw_w73 (lqc lw_w120 (lqc lw_w119 (lqc lw_w118 (lqc lw_w117 (lqc lw_w116 (lqc lw_w115 (lqc lw_w114 (lqc lw_w113 (lqc lw_w112 (lqc lw_w111 (lqc lw_w110 (lqc lw_w109 (lqc lw_w108 (lqc lw_w107 (lqc lw_w106 (lqc lw_w105 (lqc lw_w104 (lqc lw_w103 (lqc lw_w102 (lqc lw_w101 (lqc lw_w100 (lqc lw_w99 (lqc lw_w98 lqn))))))))))))))))))))))))
set_option maxRecDepth 20000 in
theorem lw_l_wsL_setReach_r6 : ∀ w ∈ wsL_setReach_r6, w ∈ lw_tbl := (lqc lw_w97 (lqc lw_w144 (lqc lw_w143 (lqc lw_w142 (lqc lw_w141 (lqc lw_w140 (lqc lw_w139 (lqc lw_w138 (lqc lw_w137 (lqc lw_w136 (lqc lw_w135 (lqc lw_w134 (lqc lw_w133 (lqc lw_w132 (lqc lw_w131 (lqc lw_w130 (lqc lw_w129 (lqc lw_w128 (lqc lw_w127 (lqc lw_w126 (lqc lw_w240 (lqc lw_w188 (lqc lw_w187 lqn)))))))))))))))))))))))
set_option maxRecDepth 20000 in
theorem lw_l_wsL_setReach : ∀ w ∈ wsL_setReach, w ∈ lw_tbl := (lqc lw_w248 (lqa (lqa (lqa (lqa (lqa (lqa (lqa (lqa (lqa (lqa (lqa (lqa (lqa (lqa lw_l_wsL_setReach_r1 (lqa lw_l_wsL_setReach_r2 (lqa lw_l_wsL_setReach_r3 (lqa lw_l_wsL_setReach_r4 (lqa lw_l_wsL_setReach_r5 lw_l_wsL_setReach_r6))))) lw_u_wsX110) lw_u_wsX50) lw_u_wsX30) lw_u_wsX10) lw_u_wsX40) lw_u_wsX70) lw_u_wsX00) lw_u_wsX100) lw_u_wsX60) lw_u_wsX80) lw_u_wsX90) lw_x1) lw_x0))
set_option maxRecDepth 20000 in
theorem lw_l_wsL_setCrowd_r1 : ∀ w ∈ wsL_setCrowd_r1, w ∈ lw_tbl := (lqc lw_w156 (lqc lw_w24 (lqc lw_w259 (lqc lw_w258 (lqc lw_w257 (lqc lw_w20 (lqc lw_w256 (lqc lw_w16 (lqc lw_w243 (lqc lw_w255 (lqc lw_w150 (lqc lw_w149 (lqc lw_w148 (lqc lw_w147 (lqc lw_w146 (lqc lw_w168 (lqc lw_w167 (lqc lw_w166 (lqc lw_w18 (lqc lw_w17 (lqc lw_w4 (lqc lw_w3 (lqc lw_w2 (lqc lw_w1 lqn))))))))))))))))))))))))
set_option maxRecDepth 20000 in
theorem lw_l_wsL_setCrowd_r2 : ∀ w ∈ wsL_setCrowd_r2, w ∈ lw_tbl := (lqc lw_w48 (lqc lw_w47 (lqc lw_w46 (lqc lw_w45 (lqc lw_w44 (lqc lw_w43 (lqc lw_w42 (lqc lw_w41 (lqc lw_w40 (lqc lw_w39 (lqc lw_w38 (lqc lw_w37 (lqc lw_w36 (lqc lw_w35 (lqc lw_w34 (lqc lw_w33 (lqc lw_w32 (lqc lw_w31 (lqc lw_w30 (lqc lw_w29 (lqc lw_w28 (lqc lw_w27 (lqc lw_w26 (lqc lw_w25 lqn))))))))))))))))))))))))
set_option maxRecDepth 20000 in
theorem lw_l_wsL_setCrowd_r3 : ∀ w ∈ wsL_setCrowd_r3, w ∈ lw_tbl := (lqc lw_w72 (lqc lw_w71 (lqc lw_w70 (lqc lw_w69 (lqc lw_w12 (lqc lw_w68 (lqc lw_w67 (lqc lw_w66 (lqc lw_w65 (lqc lw_w64 (lqc lw_w63 (lqc lw_w62 (lqc lw_w61 (lqc lw_w60 (lqc lw_w59 (lqc lw_w58 (lqc lw_w57 (lqc lw_w56 (lqc lw_w55 (lqc lw_w54 (lqc lw_w53 (lqc lw_w52 (lqc lw_w51 (lqc lw_w50 lqn))))))))))))))))))))))))
set_option maxRecDepth 20000 in
theorem lw_l_wsL_setCrowd_r4 : ∀ w ∈ wsL_setCrowd_r4, w ∈ lw_tbl := (lqc lw_w49 (lqc lw_w96 (lqc lw_w95 (lqc lw_w94 (lqc lw_w93 (lqc lw_w92 (lqc lw_w91 (lqc lw_w90 (lqc lw_w89 (lqc lw_w88 (lqc lw_w87 (lqc lw_w86 (lqc lw_w85 (lqc lw_w84 (lqc lw_w83 (lqc lw_w82 (lqc lw_w81 (lqc lw_w80 (lqc lw_w79 (lqc lw_w78 (lqc lw_w77 (lqc lw_w76 (lqc lw_w75 (lqc lw_w74 lqn))))))))))))))))))))))))
set_option maxRecDepth 20000 in
theorem lw_l_wsL_setCrowd_r5 : ∀ w ∈ wsL_setCrowd_r5, w ∈ lw_tbl := (lqc lw_w73 (lqc lw_w120 (lqc lw_w119 (lqc lw_w118 (lqc lw_w117 (lqc lw_w116 (lqc lw_w115 (lqc lw_w114 (lqc lw_w113 (lqc lw_w112 (lqc lw_w111 (lqc lw_w110 (lqc lw_w109 (lqc lw_w108 (lqc lw_w107 (lqc lw_w106 (lqc lw_w105 (lqc lw_w104 (lqc lw_w103 (lqc lw_w102 (lqc lw_w101 (lqc lw_w100 (lqc lw_w99 (lqc lw_w98 lqn))))))))))))))))))))))))
set_option maxRecDepth 20000 in
theorem lw_l_wsL_setCrowd_r6 : ∀ w ∈ wsL_setCrowd_r6, w ∈ lw_tbl := (lqc lw_w97 (lqc lw_w144 (lqc lw_w143 (lqc lw_w142 (lqc lw_w141 (lqc lw_w140 (lqc lw_w139 (lqc lw_w138 (lqc lw_w137 (lqc lw_w136 (lqc lw_w135 (lqc lw_w134 (lqc lw_w133 (lqc lw_w132 (lqc lw_w131 (lqc lw_w130 (lqc lw_w129 (lqc lw_w128 (lqc lw_w127 (lqc lw_w126 (lqc lw_w240 (lqc lw_w188 (lqc lw_w187 lqn)))))))))))))))))))))))
set_option maxRecDepth 20000 in
theorem lw_l_wsL_setCrowd : ∀ w ∈ wsL_setCrowd, w ∈ lw_tbl := (lqc lw_w254 (lqa (lqa (lqa (lqa (lqa (lqa (lqa (lqa (lqa (lqa (lqa (lqa (lqa (lqa lw_l_wsL_setCrowd_r1 (lqa lw_l_wsL_setCrowd_r2 (lqa lw_l_wsL_setCrowd_r3 (lqa lw_l_wsL_setCrowd_r4 (lqa lw_l_wsL_setCrowd_r5 lw_l_wsL_setCrowd_r6))))) lw_u_wsX110) lw_u_wsX50) lw_u_wsX30) lw_u_wsX10) lw_u_wsX40) lw_u_wsX70) lw_u_wsX00) lw_u_wsX100) lw_u_wsX60) lw_u_wsX80) lw_u_wsX90) lw_x1) lw_x0))
set_option maxRecDepth 20000 in
theorem lw_l_wsL_setServing_r1 : ∀ w ∈ wsL_setServing_r1, w ∈ lw_tbl := (lqc lw_w24 (lqc lw_w266 (lqc lw_w265 (lqc lw_w264 (lqc lw_w20 (lqc lw_w263 (lqc lw_w16 (lqc lw_w262 (lqc lw_w261 (lqc lw_w168 (lqc lw_w167 (lqc lw_w166 (lqc lw_w18 (lqc lw_w17 (lqc lw_w4 (lqc lw_w3 (lqc lw_w2 (lqc lw_w1 (lqc lw_w48 (lqc lw_w47 (lqc lw_w46 (lqc lw_w45 (lqc lw_w44 (lqc lw_w43 lqn))))))))))))))))))))))))
set_option maxRecDepth 20000 in
theorem lw_l_wsL_setServing_r2 : ∀ w ∈ wsL_setServing_r2, w ∈ lw_tbl := (lqc lw_w42 (lqc lw_w41 (lqc lw_w40 (lqc lw_w39 (lqc lw_w38 (lqc lw_w37 (lqc lw_w36 (lqc lw_w35 (lqc lw_w34 (lqc lw_w33 (lqc lw_w32 (lqc lw_w31 (lqc lw_w30 (lqc lw_w29 (lqc lw_w28 (lqc lw_w27 (lqc lw_w26 (lqc lw_w25 (lqc lw_w72 (lqc lw_w71 (lqc lw_w70 (lqc lw_w69 (lqc lw_w12 (lqc lw_w68 lqn))))))))))))))))))))))))
set_option maxRecDepth 20000 in
theorem lw_l_wsL_setServing_r3 : ∀ w ∈ wsL_setServing_r3, w ∈ lw_tbl := (lqc lw_w67 (lqc lw_w66 (lqc lw_w65 (lqc lw_w64 (lqc lw_w63 (lqc lw_w62 (lqc lw_w61 (lqc lw_w60 (lqc lw_w59 (lqc lw_w58 (lqc lw_w57 (lqc lw_w56 (lqc lw_w55 (lqc lw_w54 (lqc lw_w53 (lqc lw_w52 (lqc lw_w51 (lqc lw_w50 (lqc lw_w49 (lqc lw_w96 (lqc lw_w95 (lqc lw_w94 (lqc lw_w93 (lqc lw_w92 lqn))))))))))))))))))))))))
set_option maxRecDepth 20000 in
theorem lw_l_wsL_setServing_r4 : ∀ w ∈ wsL_setServing_r4, w ∈ lw_tbl := (lqc lw_w91 (lqc lw_w90 (lqc lw_w89 (lqc lw_w88 (lqc lw_w87 (lqc lw_w86 (lqc lw_w85 (lqc lw_w84 (lqc lw_w83 (lqc lw_w82 (lqc lw_w81 (lqc lw_w80 (lqc lw_w79 (lqc lw_w78 (lqc lw_w77 (lqc lw_w76 (lqc lw_w75 (lqc lw_w74 (lqc lw_w73 (lqc lw_w120 (lqc lw_w119 (lqc lw_w118 (lqc lw_w117 (lqc lw_w116 lqn))))))))))))))))))))))))
set_option maxRecDepth 20000 in
theorem lw_l_wsL_setServing_r5 : ∀ w ∈ wsL_setServing_r5, w ∈ lw_tbl := (lqc lw_w115 (lqc lw_w114 (lqc lw_w113 (lqc lw_w112 (lqc lw_w111 (lqc lw_w110 (lqc lw_w109 (lqc lw_w108 (lqc lw_w107 (lqc lw_w106 (lqc lw_w105 (lqc lw_w104 (lqc lw_w103 (lqc lw_w102 (lqc lw_w101 (lqc lw_w100 (lqc lw_w99 (lqc lw_w98 (lqc lw_w97 (lqc lw_w144 (lqc lw_w143 (lqc lw_w142 (lqc lw_w141 (lqc lw_w140 lqn))))))))))))))))))))))))
set_option maxRecDepth 20000 in
theorem lw_l_wsL_setServing_r6 : ∀ w ∈ wsL_setServing_r6, w ∈ lw_tbl := (lqc lw_w139 (lqc lw_w138 (lqc lw_w137 (lqc lw_w136 (lqc lw_w135 (lqc lw_w134 (lqc lw_w133 (lqc lw_w132 (lqc lw_w131 (lqc lw_w130 (lqc lw_w129 (lqc lw_w128 (lqc lw_w127 (lqc lw_w126 lqn))))))))))))))
set_option maxRecDepth 20000 in
theorem lw_l_wsL_setServing : ∀ w ∈ wsL_setServing, w ∈ lw_tbl := (lqc lw_w260 (lqa (lqa (lqa (lqa (lqa (lqa (lqa (lqa (lqa (lqa (lqa (lqa (lqa lw_l_wsL_setServing_r1 (lqa lw_l_wsL_setServing_r2 (lqa lw_l_wsL_setServing_r3 (lqa lw_l_wsL_setServing_r4 (lqa lw_l_wsL_setServing_r5 lw_l_wsL_setServing_r6))))) lw_u_wsX110) lw_u_wsX50) lw_u_wsX00) lw_u_wsX10) lw_u_wsX40) lw_u_wsX70) lw_u_wsX30) lw_u_wsX100) lw_u_wsX60) lw_u_wsX80) lw_u_wsX90) lw_x0))
set_option maxRecDepth 20000 in
theorem lw_l_wsL_join_r1 : ∀ w ∈ wsL_join_r1, w ∈ lw_tbl := (lqc lw_w156 (lqc lw_w201 (lqc lw_w275 (lqc lw_w274 (lqc lw_w273 (lqc lw_w20 (lqc lw_w272 (lqc lw_w196 (lqc lw_w195 (lqc lw_w16 (lqc lw_w262 (lqc lw_w150 (lqc lw_w149 (lqc lw_w148 (lqc lw_w147 (lqc lw_w146 (lqc lw_w271 (lqc lw_w270 (lqc lw_w269 (lqc lw_w119 (lqc lw_w268 (lqc lw_w115 (lqc lw_w4 (lqc lw_w3 lqn))))))))))))))))))))))))
set_option maxRecDepth 20000 in
theorem lw_l_wsL_join_r2 : ∀ w ∈ wsL_join_r2, w ∈ lw_tbl := (lqc lw_w2 (lqc lw_w1 (lqc lw_w48 (lqc lw_w47 (lqc lw_w46 (lqc lw_w45 (lqc lw_w44 (lqc lw_w43 (lqc lw_w42 (lqc lw_w41 (lqc lw_w40 (lqc lw_w39 (lqc lw_w38 (lqc lw_w37 (lqc lw_w36 (lqc lw_w35 (lqc lw_w34 (lqc lw_w33 (lqc lw_w32 (lqc lw_w31 (lqc lw_w30 (lqc lw_w29 (lqc lw_w28 (lqc lw_w27 lqn))))))))))))))))))))))))
set_option maxRecDepth 20000 in
theorem lw_l_wsL_join_r3 : ∀ w ∈ wsL_join_r3, w ∈ lw_tbl := (lqc lw_w26 (lqc lw_w25 (lqc lw_w72 (lqc lw_w71 (lqc lw_w70 (lqc lw_w69 (lqc lw_w12 (lqc lw_w68 (lqc lw_w67 (lqc lw_w66 (lqc lw_w65 (lqc lw_w64 (lqc lw_w63 (lqc lw_w62 (lqc lw_w61 (lqc lw_w60 (lqc lw_w59 (lqc lw_w58 (lqc lw_w57 (lqc lw_w56 (lqc lw_w55 (lqc lw_w54 (lqc lw_w53 (lqc lw_w52 lqn))))))))))))))))))))))))
set_option maxRecDepth 20000 in
theorem lw_l_wsL_join_r4 : ∀ w ∈ wsL_join_r4, w ∈ lw_tbl := (lqc lw_w51 (lqc lw_w50 (lqc lw_w49 (lqc lw_w96 (lqc lw_w95 (lqc lw_w94 (lqc lw_w93 (lqc lw_w92 (lqc lw_w91 (lqc lw_w90 (lqc lw_w89 (lqc lw_w88 (lqc lw_w87 (lqc lw_w86 (lqc lw_w85 (lqc lw_w84 (lqc lw_w83 (lqc lw_w82 (lqc lw_w81 (lqc lw_w80 (lqc lw_w79 (lqc lw_w78 (lqc lw_w77 (lqc lw_w76 lqn))))))))))))))))))))))))
set_option maxRecDepth 20000 in
theorem lw_l_wsL_join_r5 : ∀ w ∈ wsL_join_r5, w ∈ lw_tbl := (lqc lw_w75 (lqc lw_w74 (lqc lw_w73 (lqc lw_w120 (lqc lw_w118 (lqc lw_w117 (lqc lw_w116 (lqc lw_w114 (lqc lw_w113 (lqc lw_w112 (lqc lw_w111 (lqc lw_w110 (lqc lw_w109 (lqc lw_w108 (lqc lw_w107 (lqc lw_w106 (lqc lw_w105 (lqc lw_w104 (lqc lw_w103 (lqc lw_w102 (lqc lw_w101 (lqc lw_w100 (lqc lw_w99 (lqc lw_w98 lqn))))))))))))))))))))))))
set_option maxRecDepth 20000 in
theorem lw_l_wsL_join_r6 : ∀ w ∈ wsL_join_r6, w ∈ lw_tbl := (lqc lw_w97 (lqc lw_w144 (lqc lw_w143 (lqc lw_w142 (lqc lw_w141 (lqc lw_w140 (lqc lw_w139 (lqc lw_w138 (lqc lw_w137 (lqc lw_w136 (lqc lw_w135 (lqc lw_w134 (lqc lw_w133 (lqc lw_w132 (lqc lw_w131 (lqc lw_w130 (lqc lw_w129 (lqc lw_w128 (lqc lw_w127 (lqc lw_w126 (lqc lw_w279 (lqc lw_w278 (lqc lw_w277 (lqc lw_w276 lqn))))))))))))))))))))))))
set_option maxRecDepth 20000 in
theorem lw_l_wsL_join_r7 : ∀ w ∈ wsL_join_r7, w ∈ lw_tbl := (lqc lw_w289 (lqc lw_w288 (lqc lw_w287 (lqc lw_w286 (lqc lw_w285 (lqc lw_w284 (lqc lw_w188 (lqc lw_w187 (lqc lw_w283 (lqc lw_w282 (lqc lw_w281 (lqc lw_w280 lqn))))))))))))
set_option maxRecDepth 20000 in
theorem lw_l_wsL_join : ∀ w ∈ wsL_join, w ∈ lw_tbl := (lqc lw_w267 (lqa (lqa (lqa (lqa (lqa (lqa (lqa (lqa (lqa (lqa (lqa (lqa (lqa (lqa lw_l_wsL_join_r1 (lqa lw_l_wsL_join_r2 (lqa lw_l_wsL_join_r3 (lqa lw_l_wsL_join_r4 (lqa lw_l_wsL_join_r5 (lqa lw_l_wsL_join_r6 lw_l_wsL_join_r7)))))) lw_u_wsX110) lw_u_wsX50) lw_u_wsX00) lw_u_wsX10) lw_u_wsX40) lw_u_wsX70) lw_u_wsX30) lw_u_wsX100) lw_u_wsX60) lw_u_wsX80) lw_u_wsX90) lw_x2) lw_x1))
set_option maxRecDepth 20000 in
theorem lw_l_wsL_leave_r1 : ∀ w ∈ wsL_leave_r1, w ∈ lw_tbl := (lqc lw_w156 (lqc lw_w201 (lqc lw_w294 (lqc lw_w293 (lqc lw_w292 (lqc lw_w20 (lqc lw_w291 (lqc lw_w196 (lqc lw_w195 (lqc lw_w16 (lqc lw_w262 (lqc lw_w150 (lqc lw_w149 (lqc lw_w148 (lqc lw_w147 (lqc lw_w146 (lqc lw_w271 (lqc lw_w270 (lqc lw_w269 (lqc lw_w119 (lqc lw_w268 (lqc lw_w115 (lqc lw_w4 (lqc lw_w3 lqn))))))))))))))))))))))))
set_option maxRecDepth 20000 in
theorem lw_l_wsL_leave_r2 : ∀ w ∈ wsL_leave_r2, w ∈ lw_tbl := (lqc lw_w2 (lqc lw_w1 (lqc lw_w48 (lqc lw_w47 (lqc lw_w46 (lqc lw_w45 (lqc lw_w44 (lqc lw_w43 (lqc lw_w42 (lqc lw_w41 (lqc lw_w40 (lqc lw_w39 (lqc lw_w38 (lqc lw_w37 (lqc lw_w36 (lqc lw_w35 (lqc lw_w34 (lqc lw_w33 (lqc lw_w32 (lqc lw_w31 (lqc lw_w30 (lqc lw_w29 (lqc lw_w28 (lqc lw_w27 lqn))))))))))))))))))))))))
set_option maxRecDepth 20000 in
theorem lw_l_wsL_leave_r3 : ∀ w ∈ wsL_leave_r3, w ∈ lw_tbl := (lqc lw_w26 (lqc lw_w25 (lqc lw_w72 (lqc lw_w71 (lqc lw_w70 (lqc lw_w69 (lqc lw_w12 (lqc lw_w68 (lqc lw_w67 (lqc lw_w66 (lqc lw_w65 (lqc lw_w64 (lqc lw_w63 (lqc lw_w62 (lqc lw_w61 (lqc lw_w60 (lqc lw_w59 (lqc lw_w58 (lqc lw_w57 (lqc lw_w56 (lqc lw_w55 (lqc lw_w54 (lqc lw_w53 (lqc lw_w52 lqn))))))))))))))))))))))))
set_option maxRecDepth 20000 in
theorem lw_l_wsL_leave_r4 : ∀ w ∈ wsL_leave_r4, w ∈ lw_tbl := (lqc lw_w51 (lqc lw_w50 (lqc lw_w49 (lqc lw_w96 (lqc lw_w95 (lqc lw_w94 (lqc lw_w93 (lqc lw_w92 (lqc lw_w91 (lqc lw_w90 (lqc lw_w89 (lqc lw_w88 (lqc lw_w87 (lqc lw_w86 (lqc lw_w85 (lqc lw_w84 (lqc lw_w83 (lqc lw_w82 (lqc lw_w81 (lqc lw_w80 (lqc lw_w79 (lqc lw_w78 (lqc lw_w77 (lqc lw_w76 lqn))))))))))))))))))))))))
set_option maxRecDepth 20000 in
theorem lw_l_wsL_leave_r5 : ∀ w ∈ wsL_leave_r5, w ∈ lw_tbl := (lqc lw_w75 (lqc lw_w74 (lqc lw_w73 (lqc lw_w120 (lqc lw_w118 (lqc lw_w117 (lqc lw_w116 (lqc lw_w114 (lqc lw_w113 (lqc lw_w112 (lqc lw_w111 (lqc lw_w110 (lqc lw_w109 (lqc lw_w108 (lqc lw_w107 (lqc lw_w106 (lqc lw_w105 (lqc lw_w104 (lqc lw_w103 (lqc lw_w102 (lqc lw_w101 (lqc lw_w100 (lqc lw_w99 (lqc lw_w98 lqn))))))))))))))))))))))))
set_option maxRecDepth 20000 in
theorem lw_l_wsL_leave_r6 : ∀ w ∈ wsL_leave_r6, w ∈ lw_tbl := (lqc lw_w97 (lqc lw_w144 (lqc lw_w143 (lqc lw_w142 (lqc lw_w141 (lqc lw_w140 (lqc lw_w139 (lqc lw_w138 (lqc lw_w137 (lqc lw_w136 (lqc lw_w135 (lqc lw_w134 (lqc lw_w133 (lqc lw_w132 (lqc lw_w131 (lqc lw_w130 (lqc lw_w129 (lqc lw_w128 (lqc lw_w127 (lqc lw_w126 (lqc lw_w298 (lqc lw_w297 (lqc lw_w296 (lqc lw_w295 lqn))))))))))))))))))))))))
set_option maxRecDepth 20000 in
theorem lw_l_wsL_leave_r7 : ∀ w ∈ wsL_leave_r7, w ∈ lw_tbl := (lqc lw_w284 (lqc lw_w288 (lqc lw_w287 (lqc lw_w286 (lqc lw_w285 (lqc lw_w188 (lqc lw_w187 lqn)))))))
set_option maxRecDepth 20000 in
theorem lw_l_wsL_leave : ∀ w ∈ wsL_leave, w ∈ lw_tbl := (lqc lw_w290 (lqa (lqa (lqa (lqa (lqa (lqa (lqa (lqa (lqa (lqa (lqa (lqa (lqa (lqa lw_l_wsL_leave_r1 (lqa lw_l_wsL_leave_r2 (lqa lw_l_wsL_leave_r3 (lqa lw_l_wsL_leave_r4 (lqa lw_l_wsL_leave_r5 (lqa lw_l_wsL_leave_r6 lw_l_wsL_leave_r7)))))) lw_u_wsX110) lw_u_wsX50) lw_u_wsX00) lw_u_wsX10) lw_u_wsX40) lw_u_wsX70) lw_u_wsX30) lw_u_wsX100) lw_u_wsX60) lw_u_wsX80) lw_u_wsX90) lw_x2) lw_x1))
set_option maxRecDepth 20000 in
theorem lw_l_wsL_pass_r1 : ∀ w ∈ wsL_pass_r1, w ∈ lw_tbl := (lqc lw_w24 (lqc lw_w304 (lqc lw_w303 (lqc lw_w302 (lqc lw_w20 (lqc lw_w301 (lqc lw_w16 (lqc lw_w262 (lqc lw_w300 (lqc lw_w168 (lqc lw_w167 (lqc lw_w166 (lqc lw_w18 (lqc lw_w17 (lqc lw_w4 (lqc lw_w3 (lqc lw_w2 (lqc lw_w1 (lqc lw_w48 (lqc lw_w47 (lqc lw_w46 (lqc lw_w45 (lqc lw_w44 (lqc lw_w43 lqn))))))))))))))))))))))))
set_option maxRecDepth 20000 in
theorem lw_l_wsL_pass_r2 : ∀ w ∈ wsL_pass_r2, w ∈ lw_tbl := (lqc lw_w42 (lqc lw_w41 (lqc lw_w40 (lqc lw_w39 (lqc lw_w38 (lqc lw_w37 (lqc lw_w36 (lqc lw_w35 (lqc lw_w34 (lqc lw_w33 (lqc lw_w32 (lqc lw_w31 (lqc lw_w30 (lqc lw_w29 (lqc lw_w28 (lqc lw_w27 (lqc lw_w26 (lqc lw_w25 (lqc lw_w72 (lqc lw_w71 (lqc lw_w70 (lqc lw_w69 (lqc lw_w12 (lqc lw_w68 lqn))))))))))))))))))))))))
set_option maxRecDepth 20000 in
theorem lw_l_wsL_pass_r3 : ∀ w ∈ wsL_pass_r3, w ∈ lw_tbl := (lqc lw_w67 (lqc lw_w66 (lqc lw_w65 (lqc lw_w64 (lqc lw_w63 (lqc lw_w62 (lqc lw_w61 (lqc lw_w60 (lqc lw_w59 (lqc lw_w58 (lqc lw_w57 (lqc lw_w56 (lqc lw_w55 (lqc lw_w54 (lqc lw_w53 (lqc lw_w52 (lqc lw_w51 (lqc lw_w50 (lqc lw_w49 (lqc lw_w96 (lqc lw_w95 (lqc lw_w94 (lqc lw_w93 (lqc lw_w92 lqn))))))))))))))))))))))))
set_option maxRecDepth 20000 in
theorem lw_l_wsL_pass_r4 : ∀ w ∈ wsL_pass_r4, w ∈ lw_tbl := (lqc lw_w91 (lqc lw_w90 (lqc lw_w89 (lqc lw_w88 (lqc lw_w87 (lqc lw_w86 (lqc lw_w85 (lqc lw_w84 (lqc lw_w83 (lqc lw_w82 (lqc lw_w81 (lqc lw_w80 (lqc lw_w79 (lqc lw_w78 (lqc lw_w77 (lqc lw_w76 (lqc lw_w75 (lqc lw_w74 (lqc lw_w73 (lqc lw_w120 (lqc lw_w119 (lqc lw_w118 (lqc lw_w117 (lqc lw_w116 lqn))))))))))))))))))))))))
set_option maxRecDepth 20000 in
theorem lw_l_wsL_pass_r5 : ∀ w ∈ wsL_pass_r5, w ∈ lw_tbl := (lqc lw_w115 (lqc lw_w114 (lqc lw_w113 (lqc lw_w112 (lqc lw_w111 (lqc lw_w110 (lqc lw_w109 (lqc lw_w108 (lqc lw_w107 (lqc lw_w106 (lqc lw_w105 (lqc lw_w104 (lqc lw_w103 (lqc lw_w102 (lqc lw_w101 (lqc lw_w100 (lqc lw_w99 (lqc lw_w98 (lqc lw_w97 (lqc lw_w144 (lqc lw_w143 (lqc lw_w142 (lqc lw_w141 (lqc lw_w140 lqn))))))))))))))))))))))))
set_option maxRecDepth 20000 in
theorem lw_l_wsL_pass_r6 : ∀ w ∈ wsL_pass_r6, w ∈ lw_tbl := (lqc lw_w139 (lqc lw_w138 (lqc lw_w137 (lqc lw_w136 (lqc lw_w135 (lqc lw_w134 (lqc lw_w133 (lqc lw_w132 (lqc lw_w131 (lqc lw_w130 (lqc lw_w129 (lqc lw_w128 (lqc lw_w127 (lqc lw_w126 (lqc lw_w308 (lqc lw_w307 (lqc lw_w306 (lqc lw_w305 (lqc lw_w288 (lqc lw_w287 (lqc lw_w286 (lqc lw_w285 (lqc lw_w284 (lqc lw_w270 lqn))))))))))))))))))))))))
set_option maxRecDepth 20000 in
theorem lw_l_wsL_pass_r7 : ∀ w ∈ wsL_pass_r7, w ∈ lw_tbl := (lqc lw_w269 (lqc lw_w268 (lqc lw_w309 (lqc lw_w297 (lqc lw_w296 (lqc lw_w295 (lqc lw_w188 (lqc lw_w187 lqn))))))))
set_option maxRecDepth 20000 in
theorem lw_l_wsL_pass : ∀ w ∈ wsL_pass, w ∈ lw_tbl := (lqc lw_w299 (lqa (lqa (lqa (lqa (lqa (lqa (lqa (lqa (lqa (lqa (lqa (lqa (lqa lw_l_wsL_pass_r1 (lqa lw_l_wsL_pass_r2 (lqa lw_l_wsL_pass_r3 (lqa lw_l_wsL_pass_r4 (lqa lw_l_wsL_pass_r5 (lqa lw_l_wsL_pass_r6 lw_l_wsL_pass_r7)))))) lw_u_wsX110) lw_u_wsX50) lw_u_wsX00) lw_u_wsX10) lw_u_wsX40) lw_u_wsX70) lw_u_wsX30) lw_u_wsX100) lw_u_wsX60) lw_u_wsX80) lw_u_wsX90) lw_x0))
set_option maxRecDepth 20000 in
theorem lw_l_wsL_setNeed_r1 : ∀ w ∈ wsL_setNeed_r1, w ∈ lw_tbl := (lqc lw_w156 (lqc lw_w24 (lqc lw_w316 (lqc lw_w315 (lqc lw_w314 (lqc lw_w20 (lqc lw_w313 (lqc lw_w16 (lqc lw_w312 (lqc lw_w311 (lqc lw_w150 (lqc lw_w149 (lqc lw_w148 (lqc lw_w147 (lqc lw_w146 (lqc lw_w168 (lqc lw_w167 (lqc lw_w166 (lqc lw_w18 (lqc lw_w17 (lqc lw_w4 (lqc lw_w3 (lqc lw_w2 (lqc lw_w1 lqn))))))))))))))))))))))))
set_option maxRecDepth 20000 in
theorem lw_l_wsL_setNeed_r2 : ∀ w ∈ wsL_setNeed_r2, w ∈ lw_tbl := (lqc lw_w48 (lqc lw_w47 (lqc lw_w46 (lqc lw_w45 (lqc lw_w44 (lqc lw_w43 (lqc lw_w42 (lqc lw_w41 (lqc lw_w40 (lqc lw_w39 (lqc lw_w38 (lqc lw_w37 (lqc lw_w36 (lqc lw_w35 (lqc lw_w34 (lqc lw_w33 (lqc lw_w32 (lqc lw_w31 (lqc lw_w30 (lqc lw_w29 (lqc lw_w28 (lqc lw_w27 (lqc lw_w26 (lqc lw_w25 lqn))))))))))))))))))))))))
set_option maxRecDepth 20000 in
theorem lw_l_wsL_setNeed_r3 : ∀ w ∈ wsL_setNeed_r3, w ∈ lw_tbl := (lqc lw_w72 (lqc lw_w71 (lqc lw_w70 (lqc lw_w69 (lqc lw_w12 (lqc lw_w68 (lqc lw_w67 (lqc lw_w66 (lqc lw_w65 (lqc lw_w64 (lqc lw_w63 (lqc lw_w62 (lqc lw_w61 (lqc lw_w60 (lqc lw_w59 (lqc lw_w58 (lqc lw_w57 (lqc lw_w56 (lqc lw_w55 (lqc lw_w54 (lqc lw_w53 (lqc lw_w52 (lqc lw_w51 (lqc lw_w50 lqn))))))))))))))))))))))))
set_option maxRecDepth 20000 in
theorem lw_l_wsL_setNeed_r4 : ∀ w ∈ wsL_setNeed_r4, w ∈ lw_tbl := (lqc lw_w49 (lqc lw_w96 (lqc lw_w95 (lqc lw_w94 (lqc lw_w93 (lqc lw_w92 (lqc lw_w91 (lqc lw_w90 (lqc lw_w89 (lqc lw_w88 (lqc lw_w87 (lqc lw_w86 (lqc lw_w85 (lqc lw_w84 (lqc lw_w83 (lqc lw_w82 (lqc lw_w81 (lqc lw_w80 (lqc lw_w79 (lqc lw_w78 (lqc lw_w77 (lqc lw_w76 (lqc lw_w75 (lqc lw_w74 lqn))))))))))))))))))))))))
set_option maxRecDepth 20000 in
theorem lw_l_wsL_setNeed_r5 : ∀ w ∈ wsL_setNeed_r5, w ∈ lw_tbl := (lqc lw_w73 (lqc lw_w120 (lqc lw_w119 (lqc lw_w118 (lqc lw_w117 (lqc lw_w116 (lqc lw_w115 (lqc lw_w114 (lqc lw_w113 (lqc lw_w112 (lqc lw_w111 (lqc lw_w110 (lqc lw_w109 (lqc lw_w108 (lqc lw_w107 (lqc lw_w106 (lqc lw_w105 (lqc lw_w104 (lqc lw_w103 (lqc lw_w102 (lqc lw_w101 (lqc lw_w100 (lqc lw_w99 (lqc lw_w98 lqn))))))))))))))))))))))))
set_option maxRecDepth 20000 in
theorem lw_l_wsL_setNeed_r6 : ∀ w ∈ wsL_setNeed_r6, w ∈ lw_tbl := (lqc lw_w97 (lqc lw_w144 (lqc lw_w143 (lqc lw_w142 (lqc lw_w141 (lqc lw_w140 (lqc lw_w139 (lqc lw_w138 (lqc lw_w137 (lqc lw_w136 (lqc lw_w135 (lqc lw_w134 (lqc lw_w133 (lqc lw_w132 (lqc lw_w131 (lqc lw_w130 (lqc lw_w129 (lqc lw_w128 (lqc lw_w127 (lqc lw_w126 (lqc lw_w240 (lqc lw_w188 (lqc lw_w187 lqn)))))))))))))))))))))))
set_option maxRecDepth 20000 in
theorem lw_l_wsL_setNeed : ∀ w ∈ wsL_setNeed, w ∈ lw_tbl := (lqc lw_w310 (lqa (lqa (lqa (lqa (lqa (lqa (lqa (lqa (lqa (lqa (lqa (lqa (lqa (lqa lw_l_wsL_setNeed_r1 (lqa lw_l_wsL_setNeed_r2 (lqa lw_l_wsL_setNeed_r3 (lqa lw_l_wsL_setNeed_r4 (lqa lw_l_wsL_setNeed_r5 lw_l_wsL_setNeed_r6))))) lw_u_wsX110) lw_u_wsX50) lw_u_wsX100) lw_u_wsX10) lw_u_wsX40) lw_u_wsX70) lw_u_wsX30) lw_u_wsX00) lw_u_wsX60) lw_u_wsX80) lw_u_wsX90) lw_x1) lw_x0))
set_option maxRecDepth 20000 in
theorem lw_l_wsL_setShift_r1 : ∀ w ∈ wsL_setShift_r1, w ∈ lw_tbl := (lqc lw_w24 (lqc lw_w322 (lqc lw_w321 (lqc lw_w320 (lqc lw_w20 (lqc lw_w319 (lqc lw_w16 (lqc lw_w312 (lqc lw_w318 (lqc lw_w168 (lqc lw_w167 (lqc lw_w166 (lqc lw_w18 (lqc lw_w17 (lqc lw_w4 (lqc lw_w3 (lqc lw_w2 (lqc lw_w1 (lqc lw_w48 (lqc lw_w47 (lqc lw_w46 (lqc lw_w45 (lqc lw_w44 (lqc lw_w43 lqn))))))))))))))))))))))))
set_option maxRecDepth 20000 in
theorem lw_l_wsL_setShift_r2 : ∀ w ∈ wsL_setShift_r2, w ∈ lw_tbl := (lqc lw_w42 (lqc lw_w41 (lqc lw_w40 (lqc lw_w39 (lqc lw_w38 (lqc lw_w37 (lqc lw_w36 (lqc lw_w35 (lqc lw_w34 (lqc lw_w33 (lqc lw_w32 (lqc lw_w31 (lqc lw_w30 (lqc lw_w29 (lqc lw_w28 (lqc lw_w27 (lqc lw_w26 (lqc lw_w25 (lqc lw_w72 (lqc lw_w71 (lqc lw_w70 (lqc lw_w69 (lqc lw_w12 (lqc lw_w68 lqn))))))))))))))))))))))))
set_option maxRecDepth 20000 in
theorem lw_l_wsL_setShift_r3 : ∀ w ∈ wsL_setShift_r3, w ∈ lw_tbl := (lqc lw_w67 (lqc lw_w66 (lqc lw_w65 (lqc lw_w64 (lqc lw_w63 (lqc lw_w62 (lqc lw_w61 (lqc lw_w60 (lqc lw_w59 (lqc lw_w58 (lqc lw_w57 (lqc lw_w56 (lqc lw_w55 (lqc lw_w54 (lqc lw_w53 (lqc lw_w52 (lqc lw_w51 (lqc lw_w50 (lqc lw_w49 (lqc lw_w96 (lqc lw_w95 (lqc lw_w94 (lqc lw_w93 (lqc lw_w92 lqn))))))))))))))))))))))))
set_option maxRecDepth 20000 in
theorem lw_l_wsL_setShift_r4 : ∀ w ∈ wsL_setShift_r4, w ∈ lw_tbl := (lqc lw_w91 (lqc lw_w90 (lqc lw_w89 (lqc lw_w88 (lqc lw_w87 (lqc lw_w86 (lqc lw_w85 (lqc lw_w84 (lqc lw_w83 (lqc lw_w82 (lqc lw_w81 (lqc lw_w80 (lqc lw_w79 (lqc lw_w78 (lqc lw_w77 (lqc lw_w76 (lqc lw_w75 (lqc lw_w74 (lqc lw_w73 (lqc lw_w120 (lqc lw_w119 (lqc lw_w118 (lqc lw_w117 (lqc lw_w116 lqn))))))))))))))))))))))))
set_option maxRecDepth 20000 in
theorem lw_l_wsL_setShift_r5 : ∀ w ∈ wsL_setShift_r5, w ∈ lw_tbl := (lqc lw_w115 (lqc lw_w114 (lqc lw_w113 (lqc lw_w112 (lqc lw_w111 (lqc lw_w110 (lqc lw_w109 (lqc lw_w108 (lqc lw_w107 (lqc lw_w106 (lqc lw_w105 (lqc lw_w104 (lqc lw_w103 (lqc lw_w102 (lqc lw_w101 (lqc lw_w100 (lqc lw_w99 (lqc lw_w98 (lqc lw_w97 (lqc lw_w144 (lqc lw_w143 (lqc lw_w142 (lqc lw_w141 (lqc lw_w140 lqn))))))))))))))))))))))))
set_option maxRecDepth 20000 in
theorem lw_l_wsL_setShift_r6 : ∀ w ∈ wsL_setShift_r6, w ∈ lw_tbl := (lqc lw_w139 (lqc lw_w138 (lqc lw_w137 (lqc lw_w136 (lqc lw_w135 (lqc lw_w134 (lqc lw_w133 (lqc lw_w132 (lqc lw_w131 (lqc lw_w130 (lqc lw_w129 (lqc lw_w128 (lqc lw_w127 (lqc lw_w126 lqn))))))))))))))
set_option maxRecDepth 20000 in
theorem lw_l_wsL_setShift : ∀ w ∈ wsL_setShift, w ∈ lw_tbl := (lqc lw_w317 (lqa (lqa (lqa (lqa (lqa (lqa (lqa (lqa (lqa (lqa (lqa (lqa (lqa lw_l_wsL_setShift_r1 (lqa lw_l_wsL_setShift_r2 (lqa lw_l_wsL_setShift_r3 (lqa lw_l_wsL_setShift_r4 (lqa lw_l_wsL_setShift_r5 lw_l_wsL_setShift_r6))))) lw_u_wsX110) lw_u_wsX50) lw_u_wsX100) lw_u_wsX10) lw_u_wsX40) lw_u_wsX70) lw_u_wsX30) lw_u_wsX00) lw_u_wsX60) lw_u_wsX80) lw_u_wsX90) lw_x0))
set_option maxRecDepth 20000 in
theorem lw_l_wsL_setLoad_r1 : ∀ w ∈ wsL_setLoad_r1, w ∈ lw_tbl := (lqc lw_w156 (lqc lw_w24 (lqc lw_w329 (lqc lw_w328 (lqc lw_w327 (lqc lw_w20 (lqc lw_w326 (lqc lw_w16 (lqc lw_w325 (lqc lw_w324 (lqc lw_w150 (lqc lw_w149 (lqc lw_w148 (lqc lw_w147 (lqc lw_w146 (lqc lw_w168 (lqc lw_w167 (lqc lw_w166 (lqc lw_w18 (lqc lw_w17 (lqc lw_w4 (lqc lw_w3 (lqc lw_w2 (lqc lw_w1 lqn))))))))))))))))))))))))
set_option maxRecDepth 20000 in
theorem lw_l_wsL_setLoad_r2 : ∀ w ∈ wsL_setLoad_r2, w ∈ lw_tbl := (lqc lw_w48 (lqc lw_w47 (lqc lw_w46 (lqc lw_w45 (lqc lw_w44 (lqc lw_w43 (lqc lw_w42 (lqc lw_w41 (lqc lw_w40 (lqc lw_w39 (lqc lw_w38 (lqc lw_w37 (lqc lw_w36 (lqc lw_w35 (lqc lw_w34 (lqc lw_w33 (lqc lw_w32 (lqc lw_w31 (lqc lw_w30 (lqc lw_w29 (lqc lw_w28 (lqc lw_w27 (lqc lw_w26 (lqc lw_w25 lqn))))))))))))))))))))))))
set_option maxRecDepth 20000 in
theorem lw_l_wsL_setLoad_r3 : ∀ w ∈ wsL_setLoad_r3, w ∈ lw_tbl := (lqc lw_w72 (lqc lw_w71 (lqc lw_w70 (lqc lw_w69 (lqc lw_w12 (lqc lw_w68 (lqc lw_w67 (lqc lw_w66 (lqc lw_w65 (lqc lw_w64 (lqc lw_w63 (lqc lw_w62 (lqc lw_w61 (lqc lw_w60 (lqc lw_w59 (lqc lw_w58 (lqc lw_w57 (lqc lw_w56 (lqc lw_w55 (lqc lw_w54 (lqc lw_w53 (lqc lw_w52 (lqc lw_w51 (lqc lw_w50 lqn))))))))))))))))))))))))
set_option maxRecDepth 20000 in
theorem lw_l_wsL_setLoad_r4 : ∀ w ∈ wsL_setLoad_r4, w ∈ lw_tbl := (lqc lw_w49 (lqc lw_w96 (lqc lw_w95 (lqc lw_w94 (lqc lw_w93 (lqc lw_w92 (lqc lw_w91 (lqc lw_w90 (lqc lw_w89 (lqc lw_w88 (lqc lw_w87 (lqc lw_w86 (lqc lw_w85 (lqc lw_w84 (lqc lw_w83 (lqc lw_w82 (lqc lw_w81 (lqc lw_w80 (lqc lw_w79 (lqc lw_w78 (lqc lw_w77 (lqc lw_w76 (lqc lw_w75 (lqc lw_w74 lqn))))))))))))))))))))))))
set_option maxRecDepth 20000 in
theorem lw_l_wsL_setLoad_r5 : ∀ w ∈ wsL_setLoad_r5, w ∈ lw_tbl := (lqc lw_w73 (lqc lw_w120 (lqc lw_w119 (lqc lw_w118 (lqc lw_w117 (lqc lw_w116 (lqc lw_w115 (lqc lw_w114 (lqc lw_w113 (lqc lw_w112 (lqc lw_w111 (lqc lw_w110 (lqc lw_w109 (lqc lw_w108 (lqc lw_w107 (lqc lw_w106 (lqc lw_w105 (lqc lw_w104 (lqc lw_w103 (lqc lw_w102 (lqc lw_w101 (lqc lw_w100 (lqc lw_w99 (lqc lw_w98 lqn))))))))))))))))))))))))
set_option maxRecDepth 20000 in
theorem lw_l_wsL_setLoad_r6 : ∀ w ∈ wsL_setLoad_r6, w ∈ lw_tbl := (lqc lw_w97 (lqc lw_w144 (lqc lw_w143 (lqc lw_w142 (lqc lw_w141 (lqc lw_w140 (lqc lw_w139 (lqc lw_w138 (lqc lw_w137 (lqc lw_w136 (lqc lw_w135 (lqc lw_w134 (lqc lw_w133 (lqc lw_w132 (lqc lw_w131 (lqc lw_w130 (lqc lw_w129 (lqc lw_w128 (lqc lw_w127 (lqc lw_w126 lqn))))))))))))))))))))
set_option maxRecDepth 20000 in
theorem lw_l_wsL_setLoad : ∀ w ∈ wsL_setLoad, w ∈ lw_tbl := (lqc lw_w323 (lqa (lqa (lqa (lqa (lqa (lqa (lqa (lqa (lqa (lqa (lqa (lqa (lqa (lqa lw_l_wsL_setLoad_r1 (lqa lw_l_wsL_setLoad_r2 (lqa lw_l_wsL_setLoad_r3 (lqa lw_l_wsL_setLoad_r4 (lqa lw_l_wsL_setLoad_r5 lw_l_wsL_setLoad_r6))))) lw_u_wsX110) lw_u_wsX50) lw_u_wsX60) lw_u_wsX10) lw_u_wsX40) lw_u_wsX70) lw_u_wsX30) lw_u_wsX00) lw_u_wsX100) lw_u_wsX80) lw_u_wsX90) lw_x1) lw_x0))
set_option maxRecDepth 20000 in
theorem lw_l_wsL_setGenerator_r1 : ∀ w ∈ wsL_setGenerator_r1, w ∈ lw_tbl := (lqc lw_w156 (lqc lw_w24 (lqc lw_w337 (lqc lw_w336 (lqc lw_w335 (lqc lw_w20 (lqc lw_w334 (lqc lw_w16 (lqc lw_w325 (lqc lw_w333 (lqc lw_w332 (lqc lw_w331 (lqc lw_w150 (lqc lw_w149 (lqc lw_w148 (lqc lw_w147 (lqc lw_w146 (lqc lw_w168 (lqc lw_w167 (lqc lw_w166 (lqc lw_w18 (lqc lw_w17 (lqc lw_w4 (lqc lw_w3 lqn))))))))))))))))))))))))
set_option maxRecDepth 20000 in
theorem lw_l_wsL_setGenerator_r2 : ∀ w ∈ wsL_setGenerator_r2, w ∈ lw_tbl := (lqc lw_w2 (lqc lw_w1 (lqc lw_w48 (lqc lw_w47 (lqc lw_w46 (lqc lw_w45 (lqc lw_w44 (lqc lw_w43 (lqc lw_w42 (lqc lw_w41 (lqc lw_w40 (lqc lw_w39 (lqc lw_w38 (lqc lw_w37 (lqc lw_w36 (lqc lw_w35 (lqc lw_w34 (lqc lw_w33 (lqc lw_w32 (lqc lw_w31 (lqc lw_w30 (lqc lw_w29 (lqc lw_w28 (lqc lw_w27 lqn))))))))))))))))))))))))
set_option maxRecDepth 20000 in
theorem lw_l_wsL_setGenerator_r3 : ∀ w ∈ wsL_setGenerator_r3, w ∈ lw_tbl := (lqc lw_w26 (lqc lw_w25 (lqc lw_w72 (lqc lw_w71 (lqc lw_w70 (lqc lw_w69 (lqc lw_w12 (lqc lw_w68 (lqc lw_w67 (lqc lw_w66 (lqc lw_w65 (lqc lw_w64 (lqc lw_w63 (lqc lw_w62 (lqc lw_w61 (lqc lw_w60 (lqc lw_w59 (lqc lw_w58 (lqc lw_w57 (lqc lw_w56 (lqc lw_w55 (lqc lw_w54 (lqc lw_w53 (lqc lw_w52 lqn))))))))))))))))))))))))
set_option maxRecDepth 20000 in
theorem lw_l_wsL_setGenerator_r4 : ∀ w ∈ wsL_setGenerator_r4, w ∈ lw_tbl := (lqc lw_w51 (lqc lw_w50 (lqc lw_w49 (lqc lw_w96 (lqc lw_w95 (lqc lw_w94 (lqc lw_w93 (lqc lw_w92 (lqc lw_w91 (lqc lw_w90 (lqc lw_w89 (lqc lw_w88 (lqc lw_w87 (lqc lw_w86 (lqc lw_w85 (lqc lw_w84 (lqc lw_w83 (lqc lw_w82 (lqc lw_w81 (lqc lw_w80 (lqc lw_w79 (lqc lw_w78 (lqc lw_w77 (lqc lw_w76 lqn))))))))))))))))))))))))
set_option maxRecDepth 20000 in
theorem lw_l_wsL_setGenerator_r5 : ∀ w ∈ wsL_setGenerator_r5, w ∈ lw_tbl := (lqc lw_w75 (lqc lw_w74 (lqc lw_w73 (lqc lw_w120 (lqc lw_w119 (lqc lw_w118 (lqc lw_w117 (lqc lw_w116 (lqc lw_w115 (lqc lw_w114 (lqc lw_w113 (lqc lw_w112 (lqc lw_w111 (lqc lw_w110 (lqc lw_w109 (lqc lw_w108 (lqc lw_w107 (lqc lw_w106 (lqc lw_w105 (lqc lw_w104 (lqc lw_w103 (lqc lw_w102 (lqc lw_w101 (lqc lw_w100 lqn))))))))))))))))))))))))
set_option maxRecDepth 20000 in
theorem lw_l_wsL_setGenerator_r6 : ∀ w ∈ wsL_setGenerator_r6, w ∈ lw_tbl := (lqc lw_w99 (lqc lw_w98 (lqc lw_w97 (lqc lw_w144 (lqc lw_w143 (lqc lw_w142 (lqc lw_w141 (lqc lw_w140 (lqc lw_w139 (lqc lw_w138 (lqc lw_w137 (lqc lw_w136 (lqc lw_w135 (lqc lw_w134 (lqc lw_w133 (lqc lw_w132 (lqc lw_w131 (lqc lw_w130 (lqc lw_w129 (lqc lw_w128 (lqc lw_w127 (lqc lw_w126 (lqc lw_w240 (lqc lw_w188 lqn))))))))))))))))))))))))
set_option maxRecDepth 20000 in
theorem lw_l_wsL_setGenerator_r7 : ∀ w ∈ wsL_setGenerator_r7, w ∈ lw_tbl := (lqc lw_w187 lqn)
set_option maxRecDepth 20000 in
theorem lw_l_wsL_setGenerator : ∀ w ∈ wsL_setGenerator, w ∈ lw_tbl := (lqc lw_w330 (lqa (lqa (lqa (lqa (lqa (lqa (lqa (lqa (lqa (lqa (lqa (lqa (lqa (lqa lw_l_wsL_setGenerator_r1 (lqa lw_l_wsL_setGenerator_r2 (lqa lw_l_wsL_setGenerator_r3 (lqa lw_l_wsL_setGenerator_r4 (lqa lw_l_wsL_setGenerator_r5 (lqa lw_l_wsL_setGenerator_r6 lw_l_wsL_setGenerator_r7)))))) lw_u_wsX110) lw_u_wsX50) lw_u_wsX60) lw_u_wsX10) lw_u_wsX40) lw_u_wsX70) lw_u_wsX30) lw_u_wsX00) lw_u_wsX100) lw_u_wsX80) lw_u_wsX90) lw_x1) lw_x0))
set_option maxRecDepth 20000 in
theorem lw_l_wsL_moveAll_r1 : ∀ w ∈ wsL_moveAll_r1, w ∈ lw_tbl := (lqc lw_w201 (lqc lw_w343 (lqc lw_w342 (lqc lw_w341 (lqc lw_w20 (lqc lw_w340 (lqc lw_w196 (lqc lw_w195 (lqc lw_w48 (lqc lw_w339 (lqc lw_w47 (lqc lw_w46 (lqc lw_w45 (lqc lw_w44 (lqc lw_w43 (lqc lw_w42 (lqc lw_w16 (lqc lw_w41 (lqc lw_w40 (lqc lw_w39 (lqc lw_w38 (lqc lw_w37 (lqc lw_w36 (lqc lw_w35 lqn))))))))))))))))))))))))
set_option maxRecDepth 20000 in
theorem lw_l_wsL_moveAll_r2 : ∀ w ∈ wsL_moveAll_r2, w ∈ lw_tbl := (lqc lw_w34 (lqc lw_w33 (lqc lw_w32 (lqc lw_w31 (lqc lw_w30 (lqc lw_w29 (lqc lw_w28 (lqc lw_w27 (lqc lw_w26 (lqc lw_w25 (lqc lw_w72 (lqc lw_w71 (lqc lw_w70 (lqc lw_w69 (lqc lw_w12 (lqc lw_w68 (lqc lw_w67 (lqc lw_w66 (lqc lw_w65 (lqc lw_w64 (lqc lw_w63 (lqc lw_w62 (lqc lw_w61 (lqc lw_w60 lqn))))))))))))))))))))))))
set_option maxRecDepth 20000 in
theorem lw_l_wsL_moveAll_r3 : ∀ w ∈ wsL_moveAll_r3, w ∈ lw_tbl := (lqc lw_w59 (lqc lw_w58 (lqc lw_w57 (lqc lw_w56 (lqc lw_w55 (lqc lw_w54 (lqc lw_w53 (lqc lw_w52 (lqc lw_w51 (lqc lw_w50 (lqc lw_w49 (lqc lw_w96 (lqc lw_w95 (lqc lw_w94 (lqc lw_w93 (lqc lw_w92 (lqc lw_w91 (lqc lw_w90 (lqc lw_w89 (lqc lw_w88 (lqc lw_w87 (lqc lw_w86 (lqc lw_w85 (lqc lw_w84 lqn))))))))))))))))))))))))
set_option maxRecDepth 20000 in
theorem lw_l_wsL_moveAll_r4 : ∀ w ∈ wsL_moveAll_r4, w ∈ lw_tbl := (lqc lw_w83 (lqc lw_w82 (lqc lw_w81 (lqc lw_w80 (lqc lw_w79 (lqc lw_w78 (lqc lw_w77 (lqc lw_w76 (lqc lw_w75 (lqc lw_w74 (lqc lw_w73 (lqc lw_w120 (lqc lw_w119 (lqc lw_w118 (lqc lw_w117 (lqc lw_w116 (lqc lw_w115 (lqc lw_w114 (lqc lw_w113 (lqc lw_w112 (lqc lw_w111 (lqc lw_w110 (lqc lw_w109 (lqc lw_w108 lqn))))))))))))))))))))))))
set_option maxRecDepth 20000 in
theorem lw_l_wsL_moveAll_r5 : ∀ w ∈ wsL_moveAll_r5, w ∈ lw_tbl := (lqc lw_w107 (lqc lw_w106 (lqc lw_w105 (lqc lw_w104 (lqc lw_w103 (lqc lw_w102 (lqc lw_w101 (lqc lw_w100 (lqc lw_w99 (lqc lw_w98 (lqc lw_w97 (lqc lw_w144 (lqc lw_w143 (lqc lw_w142 (lqc lw_w141 (lqc lw_w140 (lqc lw_w139 (lqc lw_w138 (lqc lw_w137 (lqc lw_w136 (lqc lw_w135 (lqc lw_w134 (lqc lw_w133 (lqc lw_w132 lqn))))))))))))))))))))))))
set_option maxRecDepth 20000 in
theorem lw_l_wsL_moveAll_r6 : ∀ w ∈ wsL_moveAll_r6, w ∈ lw_tbl := (lqc lw_w354 (lqc lw_w353 (lqc lw_w352 (lqc lw_w128 (lqc lw_w351 (lqc lw_w350 (lqc lw_w349 (lqc lw_w348 (lqc lw_w230 (lqc lw_w229 (lqc lw_w228 (lqc lw_w188 (lqc lw_w187 (lqc lw_w347 (lqc lw_w346 (lqc lw_w345 (lqc lw_w344 (lqc lw_w131 (lqc lw_w130 (lqc lw_w129 (lqc lw_w127 (lqc lw_w126 lqn))))))))))))))))))))))
set_option maxRecDepth 20000 in
theorem lw_l_wsL_moveAll : ∀ w ∈ wsL_moveAll, w ∈ lw_tbl := (lqc lw_w338 (lqa (lqa (lqa (lqa (lqa (lqa (lqa (lqa (lqa (lqa (lqa (lqa (lqa lw_l_wsL_moveAll_r1 (lqa lw_l_wsL_moveAll_r2 (lqa lw_l_wsL_moveAll_r3 (lqa lw_l_wsL_moveAll_r4 (lqa lw_l_wsL_moveAll_r5 lw_l_wsL_moveAll_r6))))) lw_u_wsX110) lw_u_wsX90) lw_u_wsX50) lw_u_wsX10) lw_u_wsX40) lw_u_wsX70) lw_u_wsX30) lw_u_wsX00) lw_u_wsX100) lw_u_wsX60) lw_u_wsX80) lw_x2))
set_option maxRecDepth 20000 in
theorem lw_l_wsL_setPrice_r1 : ∀ w ∈ wsL_setPrice_r1, w ∈ lw_tbl := (lqc lw_w156 (lqc lw_w24 (lqc lw_w361 (lqc lw_w360 (lqc lw_w359 (lqc lw_w20 (lqc lw_w358 (lqc lw_w16 (lqc lw_w357 (lqc lw_w356 (lqc lw_w150 (lqc lw_w149 (lqc lw_w148 (lqc lw_w147 (lqc lw_w146 (lqc lw_w168 (lqc lw_w167 (lqc lw_w166 (lqc lw_w18 (lqc lw_w17 (lqc lw_w4 (lqc lw_w3 (lqc lw_w2 (lqc lw_w1 lqn))))))))))))))))))))))))
set_option maxRecDepth 20000 in
theorem lw_l_wsL_setPrice_r2 : ∀ w ∈ wsL_setPrice_r2, w ∈ lw_tbl := (lqc lw_w48 (lqc lw_w47 (lqc lw_w46 (lqc lw_w45 (lqc lw_w44 (lqc lw_w43 (lqc lw_w42 (lqc lw_w41 (lqc lw_w40 (lqc lw_w39 (lqc lw_w38 (lqc lw_w37 (lqc lw_w36 (lqc lw_w35 (lqc lw_w34 (lqc lw_w33 (lqc lw_w32 (lqc lw_w31 (lqc lw_w30 (lqc lw_w29 (lqc lw_w28 (lqc lw_w27 (lqc lw_w26 (lqc lw_w25 lqn))))))))))))))))))))))))
set_option maxRecDepth 20000 in
theorem lw_l_wsL_setPrice_r3 : ∀ w ∈ wsL_setPrice_r3, w ∈ lw_tbl := (lqc lw_w72 (lqc lw_w71 (lqc lw_w70 (lqc lw_w69 (lqc lw_w12 (lqc lw_w68 (lqc lw_w67 (lqc lw_w66 (lqc lw_w65 (lqc lw_w64 (lqc lw_w63 (lqc lw_w62 (lqc lw_w61 (lqc lw_w60 (lqc lw_w59 (lqc lw_w58 (lqc lw_w57 (lqc lw_w56 (lqc lw_w55 (lqc lw_w54 (lqc lw_w53 (lqc lw_w52 (lqc lw_w51 (lqc lw_w50 lqn))))))))))))))))))))))))
set_option maxRecDepth 20000 in
theorem lw_l_wsL_setPrice_r4 : ∀ w ∈ wsL_setPrice_r4, w ∈ lw_tbl := (lqc lw_w49 (lqc lw_w96 (lqc lw_w95 (lqc lw_w94 (lqc lw_w93 (lqc lw_w92 (lqc lw_w91 (lqc lw_w90 (lqc lw_w89 (lqc lw_w88 (lqc lw_w87 (lqc lw_w86 (lqc lw_w85 (lqc lw_w84 (lqc lw_w83 (lqc lw_w82 (lqc lw_w81 (lqc lw_w80 (lqc lw_w79 (lqc lw_w78 (lqc lw_w77 (lqc lw_w76 (lqc lw_w75 (lqc lw_w74 lqn))))))))))))))))))))))))
set_option maxRecDepth 20000 in
theorem lw_l_wsL_setPrice_r5 : ∀ w ∈ wsL_setPrice_r5, w ∈ lw_tbl := (lqc lw_w73 (lqc lw_w120 (lqc lw_w119 (lqc lw_w118 (lqc lw_w117 (lqc lw_w116 (lqc lw_w115 (lqc lw_w114 (lqc lw_w113 (lqc lw_w112 (lqc lw_w111 (lqc lw_w110 (lqc lw_w109 (lqc lw_w108 (lqc lw_w107 (lqc lw_w106 (lqc lw_w105 (lqc lw_w104 (lqc lw_w103 (lqc lw_w102 (lqc lw_w101 (lqc lw_w100 (lqc lw_w99 (lqc lw_w98 lqn))))))))))))))))))))))))
set_option maxRecDepth 20000 in
theorem lw_l_wsL_setPrice_r6 : ∀ w ∈ wsL_setPrice_r6, w ∈ lw_tbl := (lqc lw_w97 (lqc lw_w144 (lqc lw_w143 (lqc lw_w142 (lqc lw_w141 (lqc lw_w140 (lqc lw_w139 (lqc lw_w138 (lqc lw_w137 (lqc lw_w136 (lqc lw_w135 (lqc lw_w134 (lqc lw_w133 (lqc lw_w132 (lqc lw_w131 (lqc lw_w130 (lqc lw_w129 (lqc lw_w128 (lqc lw_w127 (lqc lw_w126 (lqc lw_w240 (lqc lw_w188 (lqc lw_w187 lqn)))))))))))))))))))))))
set_option maxRecDepth 20000 in
theorem lw_l_wsL_setPrice : ∀ w ∈ wsL_setPrice, w ∈ lw_tbl := (lqc lw_w355 (lqa (lqa (lqa (lqa (lqa (lqa (lqa (lqa (lqa (lqa (lqa (lqa (lqa (lqa lw_l_wsL_setPrice_r1 (lqa lw_l_wsL_setPrice_r2 (lqa lw_l_wsL_setPrice_r3 (lqa lw_l_wsL_setPrice_r4 (lqa lw_l_wsL_setPrice_r5 lw_l_wsL_setPrice_r6))))) lw_u_wsX110) lw_u_wsX50) lw_u_wsX80) lw_u_wsX10) lw_u_wsX40) lw_u_wsX70) lw_u_wsX30) lw_u_wsX00) lw_u_wsX100) lw_u_wsX60) lw_u_wsX90) lw_x1) lw_x0))
set_option maxRecDepth 20000 in
theorem lw_l_wsL_ticket_r1 : ∀ w ∈ wsL_ticket_r1, w ∈ lw_tbl := (lqc lw_w156 (lqc lw_w24 (lqc lw_w201 (lqc lw_w370 (lqc lw_w369 (lqc lw_w368 (lqc lw_w20 (lqc lw_w367 (lqc lw_w16 (lqc lw_w357 (lqc lw_w150 (lqc lw_w149 (lqc lw_w148 (lqc lw_w147 (lqc lw_w146 (lqc lw_w168 (lqc lw_w167 (lqc lw_w166 (lqc lw_w18 (lqc lw_w17 (lqc lw_w366 (lqc lw_w365 (lqc lw_w364 (lqc lw_w363 lqn))))))))))))))))))))))))
set_option maxRecDepth 20000 in
theorem lw_l_wsL_ticket_r2 : ∀ w ∈ wsL_ticket_r2, w ∈ lw_tbl := (lqc lw_w196 (lqc lw_w195 (lqc lw_w377 (lqc lw_w376 (lqc lw_w375 (lqc lw_w140 (lqc lw_w374 (lqc lw_w137 (lqc lw_w373 (lqc lw_w372 (lqc lw_w371 (lqc lw_w4 (lqc lw_w3 (lqc lw_w2 (lqc lw_w1 (lqc lw_w48 (lqc lw_w47 (lqc lw_w46 (lqc lw_w45 (lqc lw_w44 (lqc lw_w43 (lqc lw_w42 (lqc lw_w41 (lqc lw_w40 lqn))))))))))))))))))))))))
set_option maxRecDepth 20000 in
theorem lw_l_wsL_ticket_r3 : ∀ w ∈ wsL_ticket_r3, w ∈ lw_tbl := (lqc lw_w39 (lqc lw_w38 (lqc lw_w37 (lqc lw_w36 (lqc lw_w35 (lqc lw_w34 (lqc lw_w33 (lqc lw_w32 (lqc lw_w31 (lqc lw_w30 (lqc lw_w29 (lqc lw_w28 (lqc lw_w27 (lqc lw_w26 (lqc lw_w25 (lqc lw_w72 (lqc lw_w71 (lqc lw_w70 (lqc lw_w69 (lqc lw_w12 (lqc lw_w68 (lqc lw_w67 (lqc lw_w66 (lqc lw_w65 lqn))))))))))))))))))))))))
set_option maxRecDepth 20000 in
theorem lw_l_wsL_ticket_r4 : ∀ w ∈ wsL_ticket_r4, w ∈ lw_tbl := (lqc lw_w64 (lqc lw_w63 (lqc lw_w62 (lqc lw_w61 (lqc lw_w60 (lqc lw_w59 (lqc lw_w58 (lqc lw_w57 (lqc lw_w56 (lqc lw_w55 (lqc lw_w54 (lqc lw_w53 (lqc lw_w52 (lqc lw_w51 (lqc lw_w50 (lqc lw_w49 (lqc lw_w96 (lqc lw_w95 (lqc lw_w94 (lqc lw_w93 (lqc lw_w92 (lqc lw_w91 (lqc lw_w90 (lqc lw_w89 lqn))))))))))))))))))))))))
set_option maxRecDepth 20000 in
theorem lw_l_wsL_ticket_r5 : ∀ w ∈ wsL_ticket_r5, w ∈ lw_tbl := (lqc lw_w88 (lqc lw_w87 (lqc lw_w86 (lqc lw_w85 (lqc lw_w84 (lqc lw_w83 (lqc lw_w82 (lqc lw_w81 (lqc lw_w80 (lqc lw_w79 (lqc lw_w78 (lqc lw_w77 (lqc lw_w76 (lqc lw_w75 (lqc lw_w74 (lqc lw_w73 (lqc lw_w120 (lqc lw_w119 (lqc lw_w118 (lqc lw_w117 (lqc lw_w116 (lqc lw_w115 (lqc lw_w114 (lqc lw_w113 lqn))))))))))))))))))))))))
set_option maxRecDepth 20000 in
theorem lw_l_wsL_ticket_r6 : ∀ w ∈ wsL_ticket_r6, w ∈ lw_tbl := (lqc lw_w112 (lqc lw_w111 (lqc lw_w110 (lqc lw_w109 (lqc lw_w108 (lqc lw_w107 (lqc lw_w106 (lqc lw_w105 (lqc lw_w104 (lqc lw_w103 (lqc lw_w102 (lqc lw_w101 (lqc lw_w100 (lqc lw_w99 (lqc lw_w98 (lqc lw_w97 (lqc lw_w144 (lqc lw_w143 (lqc lw_w142 (lqc lw_w141 (lqc lw_w139 (lqc lw_w138 (lqc lw_w136 (lqc lw_w135 lqn))))))))))))))))))))))))
set_option maxRecDepth 20000 in
theorem lw_l_wsL_ticket_r7 : ∀ w ∈ wsL_ticket_r7, w ∈ lw_tbl := (lqc lw_w134 (lqc lw_w133 (lqc lw_w132 (lqc lw_w131 (lqc lw_w130 (lqc lw_w129 (lqc lw_w128 (lqc lw_w127 (lqc lw_w126 (lqc lw_w385 (lqc lw_w384 (lqc lw_w383 (lqc lw_w382 (lqc lw_w381 (lqc lw_w380 (lqc lw_w379 (lqc lw_w378 lqn)))))))))))))))))
set_option maxRecDepth 20000 in
theorem lw_l_wsL_ticket : ∀ w ∈ wsL_ticket, w ∈ lw_tbl := (lqc lw_w362 (lqa (lqa (lqa (lqa (lqa (lqa (lqa (lqa (lqa (lqa (lqa (lqa (lqa (lqa (lqa lw_l_wsL_ticket_r1 (lqa lw_l_wsL_ticket_r2 (lqa lw_l_wsL_ticket_r3 (lqa lw_l_wsL_ticket_r4 (lqa lw_l_wsL_ticket_r5 (lqa lw_l_wsL_ticket_r6 lw_l_wsL_ticket_r7)))))) lw_u_wsX110) lw_u_wsX50) lw_u_wsX80) lw_u_wsX10) lw_u_wsX40) lw_u_wsX70) lw_u_wsX30) lw_u_wsX00) lw_u_wsX100) lw_u_wsX60) lw_u_wsX90) lw_x1) lw_x0) lw_x2))
set_option maxRecDepth 20000 in
theorem lw_l_wsL_refund_r1 : ∀ w ∈ wsL_refund_r1, w ∈ lw_tbl := (lqc lw_w156 (lqc lw_w397 (lqc lw_w396 (lqc lw_w395 (lqc lw_w394 (lqc lw_w20 (lqc lw_w393 (lqc lw_w16 (lqc lw_w357 (lqc lw_w150 (lqc lw_w149 (lqc lw_w148 (lqc lw_w147 (lqc lw_w146 (lqc lw_w392 (lqc lw_w391 (lqc lw_w390 (lqc lw_w389 (lqc lw_w388 (lqc lw_w387 (lqc lw_w377 (lqc lw_w376 (lqc lw_w375 (lqc lw_w140 lqn))))))))))))))))))))))))
set_option maxRecDepth 20000 in
theorem lw_l_wsL_refund_r2 : ∀ w ∈ wsL_refund_r2, w ∈ lw_tbl := (lqc lw_w374 (lqc lw_w137 (lqc lw_w373 (lqc lw_w372 (lqc lw_w371 (lqc lw_w4 (lqc lw_w3 (lqc lw_w2 (lqc lw_w1 (lqc lw_w48 (lqc lw_w47 (lqc lw_w46 (lqc lw_w45 (lqc lw_w44 (lqc lw_w43 (lqc lw_w42 (lqc lw_w41 (lqc lw_w40 (lqc lw_w39 (lqc lw_w38 (lqc lw_w37 (lqc lw_w36 (lqc lw_w35 (lqc lw_w34 lqn))))))))))))))))))))))))
set_option maxRecDepth 20000 in
theorem lw_l_wsL_refund_r3 : ∀ w ∈ wsL_refund_r3, w ∈ lw_tbl := (lqc lw_w33 (lqc lw_w32 (lqc lw_w31 (lqc lw_w30 (lqc lw_w29 (lqc lw_w28 (lqc lw_w27 (lqc lw_w26 (lqc lw_w25 (lqc lw_w72 (lqc lw_w71 (lqc lw_w70 (lqc lw_w69 (lqc lw_w12 (lqc lw_w68 (lqc lw_w67 (lqc lw_w66 (lqc lw_w65 (lqc lw_w64 (lqc lw_w63 (lqc lw_w62 (lqc lw_w61 (lqc lw_w60 (lqc lw_w59 lqn))))))))))))))))))))))))
set_option maxRecDepth 20000 in
theorem lw_l_wsL_refund_r4 : ∀ w ∈ wsL_refund_r4, w ∈ lw_tbl := (lqc lw_w58 (lqc lw_w57 (lqc lw_w56 (lqc lw_w55 (lqc lw_w54 (lqc lw_w53 (lqc lw_w52 (lqc lw_w51 (lqc lw_w50 (lqc lw_w49 (lqc lw_w96 (lqc lw_w95 (lqc lw_w94 (lqc lw_w93 (lqc lw_w92 (lqc lw_w91 (lqc lw_w90 (lqc lw_w89 (lqc lw_w88 (lqc lw_w87 (lqc lw_w86 (lqc lw_w85 (lqc lw_w84 (lqc lw_w83 lqn))))))))))))))))))))))))
set_option maxRecDepth 20000 in
theorem lw_l_wsL_refund_r5 : ∀ w ∈ wsL_refund_r5, w ∈ lw_tbl := (lqc lw_w82 (lqc lw_w81 (lqc lw_w80 (lqc lw_w79 (lqc lw_w78 (lqc lw_w77 (lqc lw_w76 (lqc lw_w75 (lqc lw_w74 (lqc lw_w73 (lqc lw_w120 (lqc lw_w119 (lqc lw_w118 (lqc lw_w117 (lqc lw_w116 (lqc lw_w115 (lqc lw_w114 (lqc lw_w113 (lqc lw_w112 (lqc lw_w111 (lqc lw_w110 (lqc lw_w109 (lqc lw_w108 (lqc lw_w107 lqn))))))))))))))))))))))))
set_option maxRecDepth 20000 in
theorem lw_l_wsL_refund_r6 : ∀ w ∈ wsL_refund_r6, w ∈ lw_tbl := (lqc lw_w106 (lqc lw_w105 (lqc lw_w104 (lqc lw_w103 (lqc lw_w102 (lqc lw_w101 (lqc lw_w100 (lqc lw_w99 (lqc lw_w98 (lqc lw_w97 (lqc lw_w144 (lqc lw_w143 (lqc lw_w142 (lqc lw_w141 (lqc lw_w139 (lqc lw_w138 (lqc lw_w136 (lqc lw_w135 (lqc lw_w134 (lqc lw_w133 (lqc lw_w132 (lqc lw_w131 (lqc lw_w130 (lqc lw_w129 lqn))))))))))))))))))))))))
set_option maxRecDepth 20000 in
theorem lw_l_wsL_refund_r7 : ∀ w ∈ wsL_refund_r7, w ∈ lw_tbl := (lqc lw_w128 (lqc lw_w127 (lqc lw_w126 (lqc lw_w401 (lqc lw_w400 (lqc lw_w399 (lqc lw_w398 lqn)))))))
set_option maxRecDepth 20000 in
theorem lw_l_wsL_refund : ∀ w ∈ wsL_refund, w ∈ lw_tbl := (lqc lw_w386 (lqa (lqa (lqa (lqa (lqa (lqa (lqa (lqa (lqa (lqa (lqa (lqa (lqa (lqa lw_l_wsL_refund_r1 (lqa lw_l_wsL_refund_r2 (lqa lw_l_wsL_refund_r3 (lqa lw_l_wsL_refund_r4 (lqa lw_l_wsL_refund_r5 (lqa lw_l_wsL_refund_r6 lw_l_wsL_refund_r7)))))) lw_u_wsX110) lw_u_wsX50) lw_u_wsX80) lw_u_wsX10) lw_u_wsX40) lw_u_wsX70) lw_u_wsX30) lw_u_wsX00) lw_u_wsX100) lw_u_wsX60) lw_u_wsX90) lw_x1) lw_x3))
set_option maxRecDepth 20000 in
theorem lw_l_wsL_resell_r1 : ∀ w ∈ wsL_resell_r1, w ∈ lw_tbl := (lqc lw_w156 (lqc lw_w397 (lqc lw_w201 (lqc lw_w406 (lqc lw_w405 (lqc lw_w404 (lqc lw_w20 (lqc lw_w403 (lqc lw_w16 (lqc lw_w357 (lqc lw_w150 (lqc lw_w149 (lqc lw_w148 (lqc lw_w147 (lqc lw_w146 (lqc lw_w392 (lqc lw_w391 (lqc lw_w390 (lqc lw_w389 (lqc lw_w388 (lqc lw_w387 (lqc lw_w377 (lqc lw_w376 (lqc lw_w375 lqn))))))))))))))))))))))))
set_option maxRecDepth 20000 in
theorem lw_l_wsL_resell_r2 : ∀ w ∈ wsL_resell_r2, w ∈ lw_tbl := (lqc lw_w140 (lqc lw_w374 (lqc lw_w137 (lqc lw_w373 (lqc lw_w372 (lqc lw_w371 (lqc lw_w366 (lqc lw_w365 (lqc lw_w364 (lqc lw_w363 (lqc lw_w196 (lqc lw_w195 (lqc lw_w4 (lqc lw_w3 (lqc lw_w2 (lqc lw_w1 (lqc lw_w48 (lqc lw_w47 (lqc lw_w46 (lqc lw_w45 (lqc lw_w44 (lqc lw_w43 (lqc lw_w42 (lqc lw_w41 lqn))))))))))))))))))))))))
set_option maxRecDepth 20000 in
theorem lw_l_wsL_resell_r3 : ∀ w ∈ wsL_resell_r3, w ∈ lw_tbl := (lqc lw_w40 (lqc lw_w39 (lqc lw_w38 (lqc lw_w37 (lqc lw_w36 (lqc lw_w35 (lqc lw_w34 (lqc lw_w33 (lqc lw_w32 (lqc lw_w31 (lqc lw_w30 (lqc lw_w29 (lqc lw_w28 (lqc lw_w27 (lqc lw_w26 (lqc lw_w25 (lqc lw_w72 (lqc lw_w71 (lqc lw_w70 (lqc lw_w69 (lqc lw_w12 (lqc lw_w68 (lqc lw_w67 (lqc lw_w66 lqn))))))))))))))))))))))))
set_option maxRecDepth 20000 in
theorem lw_l_wsL_resell_r4 : ∀ w ∈ wsL_resell_r4, w ∈ lw_tbl := (lqc lw_w65 (lqc lw_w64 (lqc lw_w63 (lqc lw_w62 (lqc lw_w61 (lqc lw_w60 (lqc lw_w59 (lqc lw_w58 (lqc lw_w57 (lqc lw_w56 (lqc lw_w55 (lqc lw_w54 (lqc lw_w53 (lqc lw_w52 (lqc lw_w51 (lqc lw_w50 (lqc lw_w49 (lqc lw_w96 (lqc lw_w95 (lqc lw_w94 (lqc lw_w93 (lqc lw_w92 (lqc lw_w91 (lqc lw_w90 lqn))))))))))))))))))))))))
set_option maxRecDepth 20000 in
theorem lw_l_wsL_resell_r5 : ∀ w ∈ wsL_resell_r5, w ∈ lw_tbl := (lqc lw_w89 (lqc lw_w88 (lqc lw_w87 (lqc lw_w86 (lqc lw_w85 (lqc lw_w84 (lqc lw_w83 (lqc lw_w82 (lqc lw_w81 (lqc lw_w80 (lqc lw_w79 (lqc lw_w78 (lqc lw_w77 (lqc lw_w76 (lqc lw_w75 (lqc lw_w74 (lqc lw_w73 (lqc lw_w120 (lqc lw_w119 (lqc lw_w118 (lqc lw_w117 (lqc lw_w116 (lqc lw_w115 (lqc lw_w114 lqn))))))))))))))))))))))))
set_option maxRecDepth 20000 in
theorem lw_l_wsL_resell_r6 : ∀ w ∈ wsL_resell_r6, w ∈ lw_tbl := (lqc lw_w113 (lqc lw_w112 (lqc lw_w111 (lqc lw_w110 (lqc lw_w109 (lqc lw_w108 (lqc lw_w107 (lqc lw_w106 (lqc lw_w105 (lqc lw_w104 (lqc lw_w103 (lqc lw_w102 (lqc lw_w101 (lqc lw_w100 (lqc lw_w99 (lqc lw_w98 (lqc lw_w97 (lqc lw_w144 (lqc lw_w143 (lqc lw_w142 (lqc lw_w141 (lqc lw_w139 (lqc lw_w138 (lqc lw_w136 lqn))))))))))))))))))))))))
set_option maxRecDepth 20000 in
theorem lw_l_wsL_resell_r7 : ∀ w ∈ wsL_resell_r7, w ∈ lw_tbl := (lqc lw_w135 (lqc lw_w134 (lqc lw_w133 (lqc lw_w132 (lqc lw_w131 (lqc lw_w130 (lqc lw_w129 (lqc lw_w128 (lqc lw_w127 (lqc lw_w126 (lqc lw_w410 (lqc lw_w409 (lqc lw_w408 (lqc lw_w407 lqn))))))))))))))
set_option maxRecDepth 20000 in
theorem lw_l_wsL_resell : ∀ w ∈ wsL_resell, w ∈ lw_tbl := (lqc lw_w402 (lqa (lqa (lqa (lqa (lqa (lqa (lqa (lqa (lqa (lqa (lqa (lqa (lqa (lqa (lqa lw_l_wsL_resell_r1 (lqa lw_l_wsL_resell_r2 (lqa lw_l_wsL_resell_r3 (lqa lw_l_wsL_resell_r4 (lqa lw_l_wsL_resell_r5 (lqa lw_l_wsL_resell_r6 lw_l_wsL_resell_r7)))))) lw_u_wsX110) lw_u_wsX50) lw_u_wsX80) lw_u_wsX10) lw_u_wsX40) lw_u_wsX70) lw_u_wsX30) lw_u_wsX00) lw_u_wsX100) lw_u_wsX60) lw_u_wsX90) lw_x1) lw_x3) lw_x2))
set_option maxRecDepth 20000 in
theorem lw_l_wsL_lose_r1 : ∀ w ∈ wsL_lose_r1, w ∈ lw_tbl := (lqc lw_w156 (lqc lw_w24 (lqc lw_w416 (lqc lw_w415 (lqc lw_w414 (lqc lw_w20 (lqc lw_w413 (lqc lw_w16 (lqc lw_w151 (lqc lw_w412 (lqc lw_w150 (lqc lw_w149 (lqc lw_w148 (lqc lw_w147 (lqc lw_w146 (lqc lw_w168 (lqc lw_w167 (lqc lw_w166 (lqc lw_w18 (lqc lw_w17 (lqc lw_w4 (lqc lw_w3 (lqc lw_w2 (lqc lw_w1 lqn))))))))))))))))))))))))
set_option maxRecDepth 20000 in
theorem lw_l_wsL_lose_r2 : ∀ w ∈ wsL_lose_r2, w ∈ lw_tbl := (lqc lw_w48 (lqc lw_w47 (lqc lw_w46 (lqc lw_w45 (lqc lw_w44 (lqc lw_w43 (lqc lw_w42 (lqc lw_w41 (lqc lw_w40 (lqc lw_w39 (lqc lw_w38 (lqc lw_w37 (lqc lw_w36 (lqc lw_w35 (lqc lw_w34 (lqc lw_w33 (lqc lw_w32 (lqc lw_w31 (lqc lw_w30 (lqc lw_w29 (lqc lw_w28 (lqc lw_w27 (lqc lw_w26 (lqc lw_w25 lqn))))))))))))))))))))))))
set_option maxRecDepth 20000 in
theorem lw_l_wsL_lose_r3 : ∀ w ∈ wsL_lose_r3, w ∈ lw_tbl := (lqc lw_w72 (lqc lw_w71 (lqc lw_w70 (lqc lw_w69 (lqc lw_w12 (lqc lw_w68 (lqc lw_w67 (lqc lw_w66 (lqc lw_w65 (lqc lw_w64 (lqc lw_w63 (lqc lw_w62 (lqc lw_w61 (lqc lw_w60 (lqc lw_w59 (lqc lw_w58 (lqc lw_w57 (lqc lw_w56 (lqc lw_w55 (lqc lw_w54 (lqc lw_w53 (lqc lw_w52 (lqc lw_w51 (lqc lw_w50 lqn))))))))))))))))))))))))
set_option maxRecDepth 20000 in
theorem lw_l_wsL_lose_r4 : ∀ w ∈ wsL_lose_r4, w ∈ lw_tbl := (lqc lw_w49 (lqc lw_w96 (lqc lw_w95 (lqc lw_w94 (lqc lw_w93 (lqc lw_w92 (lqc lw_w91 (lqc lw_w90 (lqc lw_w89 (lqc lw_w88 (lqc lw_w87 (lqc lw_w86 (lqc lw_w85 (lqc lw_w84 (lqc lw_w83 (lqc lw_w82 (lqc lw_w81 (lqc lw_w80 (lqc lw_w79 (lqc lw_w78 (lqc lw_w77 (lqc lw_w76 (lqc lw_w75 (lqc lw_w74 lqn))))))))))))))))))))))))
set_option maxRecDepth 20000 in
theorem lw_l_wsL_lose_r5 : ∀ w ∈ wsL_lose_r5, w ∈ lw_tbl := (lqc lw_w73 (lqc lw_w120 (lqc lw_w119 (lqc lw_w118 (lqc lw_w117 (lqc lw_w116 (lqc lw_w115 (lqc lw_w114 (lqc lw_w113 (lqc lw_w112 (lqc lw_w111 (lqc lw_w110 (lqc lw_w109 (lqc lw_w108 (lqc lw_w107 (lqc lw_w106 (lqc lw_w105 (lqc lw_w104 (lqc lw_w103 (lqc lw_w102 (lqc lw_w101 (lqc lw_w100 (lqc lw_w99 (lqc lw_w98 lqn))))))))))))))))))))))))
set_option maxRecDepth 20000 in
theorem lw_l_wsL_lose_r6 : ∀ w ∈ wsL_lose_r6, w ∈ lw_tbl := (lqc lw_w97 (lqc lw_w144 (lqc lw_w143 (lqc lw_w142 (lqc lw_w141 (lqc lw_w140 (lqc lw_w139 (lqc lw_w138 (lqc lw_w137 (lqc lw_w136 (lqc lw_w135 (lqc lw_w134 (lqc lw_w133 (lqc lw_w132 (lqc lw_w131 (lqc lw_w130 (lqc lw_w129 (lqc lw_w128 (lqc lw_w127 (lqc lw_w126 (lqc lw_w240 (lqc lw_w188 (lqc lw_w187 (lqc lw_w417 lqn))))))))))))))))))))))))
set_option maxRecDepth 20000 in
theorem lw_l_wsL_lose_r7 : ∀ w ∈ wsL_lose_r7, w ∈ lw_tbl := (lqc lw_w420 (lqc lw_w419 (lqc lw_w418 lqn)))
set_option maxRecDepth 20000 in
theorem lw_l_wsL_lose : ∀ w ∈ wsL_lose, w ∈ lw_tbl := (lqc lw_w411 (lqa (lqa (lqa (lqa (lqa (lqa (lqa (lqa (lqa (lqa (lqa (lqa (lqa (lqa lw_l_wsL_lose_r1 (lqa lw_l_wsL_lose_r2 (lqa lw_l_wsL_lose_r3 (lqa lw_l_wsL_lose_r4 (lqa lw_l_wsL_lose_r5 (lqa lw_l_wsL_lose_r6 lw_l_wsL_lose_r7)))))) lw_u_wsX110) lw_u_wsX50) lw_u_wsX40) lw_u_wsX10) lw_u_wsX70) lw_u_wsX30) lw_u_wsX00) lw_u_wsX100) lw_u_wsX60) lw_u_wsX80) lw_u_wsX90) lw_x1) lw_x0))
set_option maxRecDepth 20000 in
theorem lw_l_wsL_find_r1 : ∀ w ∈ wsL_find_r1, w ∈ lw_tbl := (lqc lw_w156 (lqc lw_w397 (lqc lw_w429 (lqc lw_w428 (lqc lw_w427 (lqc lw_w20 (lqc lw_w426 (lqc lw_w388 (lqc lw_w387 (lqc lw_w16 (lqc lw_w151 (lqc lw_w412 (lqc lw_w150 (lqc lw_w149 (lqc lw_w148 (lqc lw_w147 (lqc lw_w146 (lqc lw_w425 (lqc lw_w424 (lqc lw_w423 (lqc lw_w57 (lqc lw_w422 (lqc lw_w52 (lqc lw_w4 lqn))))))))))))))))))))))))
set_option maxRecDepth 20000 in
theorem lw_l_wsL_find_r2 : ∀ w ∈ wsL_find_r2, w ∈ lw_tbl := (lqc lw_w3 (lqc lw_w2 (lqc lw_w1 (lqc lw_w48 (lqc lw_w47 (lqc lw_w46 (lqc lw_w45 (lqc lw_w44 (lqc lw_w43 (lqc lw_w42 (lqc lw_w41 (lqc lw_w40 (lqc lw_w39 (lqc lw_w38 (lqc lw_w37 (lqc lw_w36 (lqc lw_w35 (lqc lw_w34 (lqc lw_w33 (lqc lw_w32 (lqc lw_w31 (lqc lw_w30 (lqc lw_w29 (lqc lw_w28 lqn))))))))))))))))))))))))
set_option maxRecDepth 20000 in
theorem lw_l_wsL_find_r3 : ∀ w ∈ wsL_find_r3, w ∈ lw_tbl := (lqc lw_w27 (lqc lw_w26 (lqc lw_w25 (lqc lw_w72 (lqc lw_w71 (lqc lw_w70 (lqc lw_w69 (lqc lw_w12 (lqc lw_w68 (lqc lw_w67 (lqc lw_w66 (lqc lw_w65 (lqc lw_w64 (lqc lw_w63 (lqc lw_w62 (lqc lw_w61 (lqc lw_w60 (lqc lw_w59 (lqc lw_w58 (lqc lw_w56 (lqc lw_w55 (lqc lw_w54 (lqc lw_w53 (lqc lw_w51 lqn))))))))))))))))))))))))
set_option maxRecDepth 20000 in
theorem lw_l_wsL_find_r4 : ∀ w ∈ wsL_find_r4, w ∈ lw_tbl := (lqc lw_w50 (lqc lw_w49 (lqc lw_w96 (lqc lw_w95 (lqc lw_w94 (lqc lw_w93 (lqc lw_w92 (lqc lw_w91 (lqc lw_w90 (lqc lw_w89 (lqc lw_w88 (lqc lw_w87 (lqc lw_w86 (lqc lw_w85 (lqc lw_w84 (lqc lw_w83 (lqc lw_w82 (lqc lw_w81 (lqc lw_w80 (lqc lw_w79 (lqc lw_w78 (lqc lw_w77 (lqc lw_w76 (lqc lw_w75 lqn))))))))))))))))))))))))
set_option maxRecDepth 20000 in
theorem lw_l_wsL_find_r5 : ∀ w ∈ wsL_find_r5, w ∈ lw_tbl := (lqc lw_w74 (lqc lw_w73 (lqc lw_w120 (lqc lw_w119 (lqc lw_w118 (lqc lw_w117 (lqc lw_w116 (lqc lw_w115 (lqc lw_w114 (lqc lw_w113 (lqc lw_w112 (lqc lw_w111 (lqc lw_w110 (lqc lw_w109 (lqc lw_w108 (lqc lw_w107 (lqc lw_w106 (lqc lw_w105 (lqc lw_w104 (lqc lw_w103 (lqc lw_w102 (lqc lw_w101 (lqc lw_w100 (lqc lw_w99 lqn))))))))))))))))))))))))
set_option maxRecDepth 20000 in
theorem lw_l_wsL_find_r6 : ∀ w ∈ wsL_find_r6, w ∈ lw_tbl := (lqc lw_w98 (lqc lw_w97 (lqc lw_w144 (lqc lw_w143 (lqc lw_w142 (lqc lw_w141 (lqc lw_w140 (lqc lw_w139 (lqc lw_w138 (lqc lw_w137 (lqc lw_w136 (lqc lw_w135 (lqc lw_w134 (lqc lw_w133 (lqc lw_w132 (lqc lw_w131 (lqc lw_w130 (lqc lw_w129 (lqc lw_w128 (lqc lw_w127 (lqc lw_w126 (lqc lw_w240 (lqc lw_w188 (lqc lw_w187 lqn))))))))))))))))))))))))
set_option maxRecDepth 20000 in
theorem lw_l_wsL_find : ∀ w ∈ wsL_find, w ∈ lw_tbl := (lqc lw_w421 (lqa (lqa (lqa (lqa (lqa (lqa (lqa (lqa (lqa (lqa (lqa (lqa (lqa (lqa lw_l_wsL_find_r1 (lqa lw_l_wsL_find_r2 (lqa lw_l_wsL_find_r3 (lqa lw_l_wsL_find_r4 (lqa lw_l_wsL_find_r5 lw_l_wsL_find_r6))))) lw_u_wsX110) lw_u_wsX50) lw_u_wsX40) lw_u_wsX10) lw_u_wsX70) lw_u_wsX30) lw_u_wsX00) lw_u_wsX100) lw_u_wsX60) lw_u_wsX80) lw_u_wsX90) lw_x3) lw_x1))
set_option maxRecDepth 20000 in
theorem lw_l_wsL_undo_r1 : ∀ w ∈ wsL_undo_r1, w ∈ lw_tbl := (lqc lw_w201 (lqc lw_w437 (lqc lw_w436 (lqc lw_w435 (lqc lw_w20 (lqc lw_w434 (lqc lw_w196 (lqc lw_w195 (lqc lw_w41 (lqc lw_w42 (lqc lw_w16 (lqc lw_w43 (lqc lw_w48 (lqc lw_w433 (lqc lw_w432 (lqc lw_w38 (lqc lw_w431 (lqc lw_w36 (lqc lw_w35 (lqc lw_w34 (lqc lw_w33 (lqc lw_w32 (lqc lw_w31 (lqc lw_w30 lqn))))))))))))))))))))))))
set_option maxRecDepth 20000 in
theorem lw_l_wsL_undo_r2 : ∀ w ∈ wsL_undo_r2, w ∈ lw_tbl := (lqc lw_w29 (lqc lw_w28 (lqc lw_w27 (lqc lw_w26 (lqc lw_w25 (lqc lw_w72 (lqc lw_w71 (lqc lw_w70 (lqc lw_w69 (lqc lw_w12 (lqc lw_w68 (lqc lw_w67 (lqc lw_w66 (lqc lw_w65 (lqc lw_w64 (lqc lw_w63 (lqc lw_w62 (lqc lw_w61 (lqc lw_w60 (lqc lw_w59 (lqc lw_w58 (lqc lw_w57 (lqc lw_w56 (lqc lw_w55 lqn))))))))))))))))))))))))
set_option maxRecDepth 20000 in
theorem lw_l_wsL_undo_r3 : ∀ w ∈ wsL_undo_r3, w ∈ lw_tbl := (lqc lw_w54 (lqc lw_w53 (lqc lw_w52 (lqc lw_w51 (lqc lw_w50 (lqc lw_w40 (lqc lw_w39 (lqc lw_w38 (lqc lw_w37 (lqc lw_w49 (lqc lw_w96 (lqc lw_w95 (lqc lw_w94 (lqc lw_w93 (lqc lw_w92 (lqc lw_w91 (lqc lw_w90 (lqc lw_w89 (lqc lw_w88 (lqc lw_w87 (lqc lw_w86 (lqc lw_w85 (lqc lw_w84 (lqc lw_w83 lqn))))))))))))))))))))))))
set_option maxRecDepth 20000 in
theorem lw_l_wsL_undo_r4 : ∀ w ∈ wsL_undo_r4, w ∈ lw_tbl := (lqc lw_w82 (lqc lw_w81 (lqc lw_w80 (lqc lw_w79 (lqc lw_w78 (lqc lw_w77 (lqc lw_w76 (lqc lw_w75 (lqc lw_w74 (lqc lw_w73 (lqc lw_w120 (lqc lw_w119 (lqc lw_w118 (lqc lw_w117 (lqc lw_w116 (lqc lw_w115 (lqc lw_w114 (lqc lw_w113 (lqc lw_w112 (lqc lw_w111 (lqc lw_w110 (lqc lw_w109 (lqc lw_w108 (lqc lw_w107 lqn))))))))))))))))))))))))
set_option maxRecDepth 20000 in
theorem lw_l_wsL_undo_r5 : ∀ w ∈ wsL_undo_r5, w ∈ lw_tbl := (lqc lw_w106 (lqc lw_w105 (lqc lw_w104 (lqc lw_w103 (lqc lw_w102 (lqc lw_w101 (lqc lw_w100 (lqc lw_w99 (lqc lw_w98 (lqc lw_w97 (lqc lw_w144 (lqc lw_w143 (lqc lw_w142 (lqc lw_w141 (lqc lw_w140 (lqc lw_w139 (lqc lw_w138 (lqc lw_w137 (lqc lw_w136 (lqc lw_w135 (lqc lw_w134 (lqc lw_w133 (lqc lw_w132 (lqc lw_w131 lqn))))))))))))))))))))))))
set_option maxRecDepth 20000 in
theorem lw_l_wsL_undo_r6 : ∀ w ∈ wsL_undo_r6, w ∈ lw_tbl := (lqc lw_w130 (lqc lw_w129 (lqc lw_w128 (lqc lw_w127 (lqc lw_w126 lqn)))))
set_option maxRecDepth 20000 in
theorem lw_l_wsL_undo : ∀ w ∈ wsL_undo, w ∈ lw_tbl := (lqc lw_w430 (lqa (lqa (lqa (lqa (lqa (lqa (lqa (lqa (lqa (lqa (lqa (lqa (lqa lw_l_wsL_undo_r1 (lqa lw_l_wsL_undo_r2 (lqa lw_l_wsL_undo_r3 (lqa lw_l_wsL_undo_r4 (lqa lw_l_wsL_undo_r5 lw_l_wsL_undo_r6))))) lw_u_wsX110) lw_u_wsX50) lw_u_wsX10) lw_u_wsX40) lw_u_wsX70) lw_u_wsX30) lw_u_wsX00) lw_u_wsX100) lw_u_wsX60) lw_u_wsX80) lw_u_wsX90) lw_x2))
set_option maxRecDepth 20000 in
theorem lw_l_wsL_dateAt_r1 : ∀ w ∈ wsL_dateAt_r1, w ∈ lw_tbl := (lqc lw_w24 (lqc lw_w447 (lqc lw_w446 (lqc lw_w445 (lqc lw_w20 (lqc lw_w444 (lqc lw_w16 (lqc lw_w15 (lqc lw_w168 (lqc lw_w167 (lqc lw_w166 (lqc lw_w18 (lqc lw_w17 (lqc lw_w443 (lqc lw_w442 (lqc lw_w441 (lqc lw_w12 (lqc lw_w440 (lqc lw_w67 (lqc lw_w66 (lqc lw_w65 (lqc lw_w439 (lqc lw_w123 (lqc lw_w122 lqn))))))))))))))))))))))))
set_option maxRecDepth 20000 in
theorem lw_l_wsL_dateAt_r2 : ∀ w ∈ wsL_dateAt_r2, w ∈ lw_tbl := (lqc lw_w121 (lqc lw_w10 (lqc lw_w9 (lqc lw_w8 (lqc lw_w7 (lqc lw_w6 (lqc lw_w5 lqn)))))))
set_option maxRecDepth 20000 in
theorem lw_l_wsL_dateAt : ∀ w ∈ wsL_dateAt, w ∈ lw_tbl := (lqc lw_w438 (lqa (lqa (lqa (lqa (lqa lw_l_wsL_dateAt_r1 lw_l_wsL_dateAt_r2) lw_u_wsX110) lw_u_wsX50) lw_u_wsX10) lw_x0))
set_option maxRecDepth 20000 in
theorem lw_l_wsL_walk : ∀ w ∈ wsL_walk, w ∈ lw_tbl := (lqc lw_w448 (lqa (lqa (lqa (lqa (lqc lw_w156 (lqc lw_w452 (lqc lw_w451 (lqc lw_w450 (lqc lw_w20 (lqc lw_w449 (lqc lw_w16 (lqc lw_w151 (lqc lw_w150 (lqc lw_w149 (lqc lw_w148 (lqc lw_w147 (lqc lw_w146 (lqc lw_w181 (lqc lw_w180 (lqc lw_w179 (lqc lw_w57 (lqc lw_w178 (lqc lw_w53 lqn))))))))))))))))))) lw_u_wsX110) lw_u_wsX50) lw_u_wsX40) lw_x1))
set_option maxRecDepth 20000 in
theorem lw_l_wsL_actAt_r1 : ∀ w ∈ wsL_actAt_r1, w ∈ lw_tbl := (lqc lw_w156 (lqc lw_w24 (lqc lw_w457 (lqc lw_w456 (lqc lw_w455 (lqc lw_w20 (lqc lw_w454 (lqc lw_w16 (lqc lw_w194 (lqc lw_w217 (lqc lw_w216 (lqc lw_w215 (lqc lw_w214 (lqc lw_w147 (lqc lw_w146 (lqc lw_w213 (lqc lw_w204 (lqc lw_w203 (lqc lw_w90 (lqc lw_w202 (lqc lw_w84 (lqc lw_w168 (lqc lw_w167 (lqc lw_w166 lqn))))))))))))))))))))))))
set_option maxRecDepth 20000 in
theorem lw_l_wsL_actAt_r2 : ∀ w ∈ wsL_actAt_r2, w ∈ lw_tbl := (lqc lw_w18 (lqc lw_w17 (lqc lw_w470 (lqc lw_w469 (lqc lw_w468 (lqc lw_w467 (lqc lw_w466 (lqc lw_w465 (lqc lw_w464 (lqc lw_w463 (lqc lw_w462 (lqc lw_w461 (lqc lw_w460 (lqc lw_w459 (lqc lw_w226 (lqc lw_w225 (lqc lw_w224 (lqc lw_w223 (lqc lw_w222 (lqc lw_w233 (lqc lw_w232 (lqc lw_w83 (lqc lw_w205 (lqc lw_w458 lqn))))))))))))))))))))))))
set_option maxRecDepth 20000 in
theorem lw_l_wsL_actAt_r3 : ∀ w ∈ wsL_actAt_r3, w ∈ lw_tbl := (lqc lw_w490 (lqc lw_w489 (lqc lw_w488 (lqc lw_w88 (lqc lw_w487 (lqc lw_w486 (lqc lw_w485 (lqc lw_w484 (lqc lw_w87 (lqc lw_w85 (lqc lw_w483 (lqc lw_w482 (lqc lw_w481 (lqc lw_w480 (lqc lw_w86 (lqc lw_w479 (lqc lw_w478 (lqc lw_w477 (lqc lw_w476 (lqc lw_w475 (lqc lw_w474 (lqc lw_w473 (lqc lw_w472 (lqc lw_w471 lqn))))))))))))))))))))))))
set_option maxRecDepth 20000 in
theorem lw_l_wsL_actAt_r4 : ∀ w ∈ wsL_actAt_r4, w ∈ lw_tbl := (lqc lw_w492 (lqc lw_w491 lqn))
set_option maxRecDepth 20000 in
theorem lw_l_wsL_actAt : ∀ w ∈ wsL_actAt, w ∈ lw_tbl := (lqc lw_w453 (lqa (lqa (lqa (lqa (lqa (lqa lw_l_wsL_actAt_r1 (lqa lw_l_wsL_actAt_r2 (lqa lw_l_wsL_actAt_r3 lw_l_wsL_actAt_r4))) lw_u_wsX110) lw_u_wsX50) lw_u_wsX70) lw_x1) lw_x0))
set_option maxRecDepth 20000 in
theorem lw_l_wsL_firstIn_r1 : ∀ w ∈ wsL_firstIn_r1, w ∈ lw_tbl := (lqc lw_w156 (lqc lw_w24 (lqc lw_w503 (lqc lw_w502 (lqc lw_w501 (lqc lw_w20 (lqc lw_w500 (lqc lw_w18 (lqc lw_w17 (lqc lw_w16 (lqc lw_w194 (lqc lw_w150 (lqc lw_w149 (lqc lw_w148 (lqc lw_w147 (lqc lw_w146 (lqc lw_w499 (lqc lw_w498 (lqc lw_w497 (lqc lw_w90 (lqc lw_w496 (lqc lw_w87 (lqc lw_w495 (lqc lw_w494 lqn))))))))))))))))))))))))
set_option maxRecDepth 20000 in
theorem lw_l_wsL_firstIn_r2 : ∀ w ∈ wsL_firstIn_r2, w ∈ lw_tbl := (lqc lw_w509 (lqc lw_w508 (lqc lw_w88 (lqc lw_w205 (lqc lw_w204 (lqc lw_w203 (lqc lw_w202 (lqc lw_w84 (lqc lw_w507 (lqc lw_w506 (lqc lw_w505 (lqc lw_w504 lqn))))))))))))
set_option maxRecDepth 20000 in
theorem lw_l_wsL_firstIn : ∀ w ∈ wsL_firstIn, w ∈ lw_tbl := (lqc lw_w493 (lqa (lqa (lqa (lqa (lqa (lqa lw_l_wsL_firstIn_r1 lw_l_wsL_firstIn_r2) lw_u_wsX110) lw_u_wsX50) lw_u_wsX70) lw_x0) lw_x1))
set_option maxRecDepth 20000 in
theorem lw_l_wsL_clash_r1 : ∀ w ∈ wsL_clash_r1, w ∈ lw_tbl := (lqc lw_w156 (lqc lw_w24 (lqc lw_w514 (lqc lw_w513 (lqc lw_w512 (lqc lw_w20 (lqc lw_w511 (lqc lw_w16 (lqc lw_w194 (lqc lw_w217 (lqc lw_w216 (lqc lw_w215 (lqc lw_w214 (lqc lw_w147 (lqc lw_w146 (lqc lw_w213 (lqc lw_w204 (lqc lw_w203 (lqc lw_w90 (lqc lw_w202 (lqc lw_w84 (lqc lw_w171 (lqc lw_w170 (lqc lw_w169 lqn))))))))))))))))))))))))
set_option maxRecDepth 20000 in
theorem lw_l_wsL_clash_r2 : ∀ w ∈ wsL_clash_r2, w ∈ lw_tbl := (lqc lw_w18 (lqc lw_w17 (lqc lw_w515 (lqc lw_w490 (lqc lw_w489 (lqc lw_w488 (lqc lw_w88 (lqc lw_w487 (lqc lw_w486 (lqc lw_w485 (lqc lw_w484 (lqc lw_w87 (lqc lw_w85 (lqc lw_w205 (lqc lw_w483 (lqc lw_w482 (lqc lw_w481 (lqc lw_w480 (lqc lw_w86 lqn)))))))))))))))))))
set_option maxRecDepth 20000 in
theorem lw_l_wsL_clash : ∀ w ∈ wsL_clash, w ∈ lw_tbl := (lqc lw_w510 (lqa (lqa (lqa (lqa (lqa (lqa lw_l_wsL_clash_r1 lw_l_wsL_clash_r2) lw_u_wsX110) lw_u_wsX50) lw_u_wsX70) lw_x1) lw_x0))
set_option maxRecDepth 20000 in
theorem lw_l_wsL_evening_r1 : ∀ w ∈ wsL_evening_r1, w ∈ lw_tbl := (lqc lw_w156 (lqc lw_w533 (lqc lw_w532 (lqc lw_w531 (lqc lw_w20 (lqc lw_w530 (lqc lw_w529 (lqc lw_w150 (lqc lw_w149 (lqc lw_w148 (lqc lw_w147 (lqc lw_w146 (lqc lw_w528 (lqc lw_w527 (lqc lw_w526 (lqc lw_w525 (lqc lw_w524 (lqc lw_w523 (lqc lw_w522 (lqc lw_w521 (lqc lw_w520 (lqc lw_w519 (lqc lw_w518 (lqc lw_w517 lqn))))))))))))))))))))))))
set_option maxRecDepth 20000 in
theorem lw_l_wsL_evening_r2 : ∀ w ∈ wsL_evening_r2, w ∈ lw_tbl := (lqc lw_w542 (lqc lw_w90 (lqc lw_w541 (lqc lw_w87 (lqc lw_w205 (lqc lw_w204 (lqc lw_w203 (lqc lw_w202 (lqc lw_w84 (lqc lw_w507 (lqc lw_w506 (lqc lw_w505 (lqc lw_w504 (lqc lw_w540 (lqc lw_w222 (lqc lw_w233 (lqc lw_w232 (lqc lw_w83 (lqc lw_w539 (lqc lw_w538 (lqc lw_w537 (lqc lw_w536 (lqc lw_w535 (lqc lw_w534 lqn))))))))))))))))))))))))
set_option maxRecDepth 20000 in
theorem lw_l_wsL_evening_r3 : ∀ w ∈ wsL_evening_r3, w ∈ lw_tbl := (lqc lw_w553 (lqc lw_w552 (lqc lw_w551 (lqc lw_w550 (lqc lw_w549 (lqc lw_w548 (lqc lw_w547 (lqc lw_w546 (lqc lw_w545 (lqc lw_w482 (lqc lw_w481 (lqc lw_w480 (lqc lw_w86 (lqc lw_w544 (lqc lw_w494 (lqc lw_w509 (lqc lw_w508 (lqc lw_w88 (lqc lw_w543 (lqc lw_w180 (lqc lw_w179 (lqc lw_w57 (lqc lw_w178 (lqc lw_w53 lqn))))))))))))))))))))))))
set_option maxRecDepth 20000 in
theorem lw_l_wsL_evening_r4 : ∀ w ∈ wsL_evening_r4, w ∈ lw_tbl := (lqc lw_w188 (lqc lw_w187 (lqc lw_w574 (lqc lw_w573 (lqc lw_w572 (lqc lw_w571 (lqc lw_w570 (lqc lw_w569 (lqc lw_w568 (lqc lw_w567 (lqc lw_w566 (lqc lw_w565 (lqc lw_w564 (lqc lw_w563 (lqc lw_w562 (lqc lw_w561 (lqc lw_w38 (lqc lw_w560 (lqc lw_w559 (lqc lw_w558 (lqc lw_w557 (lqc lw_w556 (lqc lw_w555 (lqc lw_w554 lqn))))))))))))))))))))))))
set_option maxRecDepth 20000 in
theorem lw_l_wsL_evening_r5 : ∀ w ∈ wsL_evening_r5, w ∈ lw_tbl := (lqc lw_w576 (lqc lw_w575 lqn))
set_option maxRecDepth 20000 in
theorem lw_l_wsL_evening : ∀ w ∈ wsL_evening, w ∈ lw_tbl := (lqc lw_w516 (lqa (lqa (lqa (lqa (lqa (lqa lw_l_wsL_evening_r1 (lqa lw_l_wsL_evening_r2 (lqa lw_l_wsL_evening_r3 (lqa lw_l_wsL_evening_r4 lw_l_wsL_evening_r5)))) lw_u_wsX110) lw_u_wsX20) lw_u_wsX70) lw_u_wsX40) lw_x1))
set_option maxRecDepth 20000 in
theorem lw_l_wsL_eveningAct_r1 : ∀ w ∈ wsL_eveningAct_r1, w ∈ lw_tbl := (lqc lw_w156 (lqc lw_w397 (lqc lw_w581 (lqc lw_w580 (lqc lw_w579 (lqc lw_w20 (lqc lw_w578 (lqc lw_w388 (lqc lw_w387 (lqc lw_w529 (lqc lw_w150 (lqc lw_w149 (lqc lw_w148 (lqc lw_w147 (lqc lw_w146 (lqc lw_w528 (lqc lw_w527 (lqc lw_w526 (lqc lw_w525 (lqc lw_w524 (lqc lw_w523 (lqc lw_w522 (lqc lw_w521 (lqc lw_w520 lqn))))))))))))))))))))))))
set_option maxRecDepth 20000 in
theorem lw_l_wsL_eveningAct_r2 : ∀ w ∈ wsL_eveningAct_r2, w ∈ lw_tbl := (lqc lw_w519 (lqc lw_w518 (lqc lw_w517 (lqc lw_w542 (lqc lw_w90 (lqc lw_w541 (lqc lw_w87 (lqc lw_w205 (lqc lw_w204 (lqc lw_w203 (lqc lw_w202 (lqc lw_w84 (lqc lw_w507 (lqc lw_w506 (lqc lw_w505 (lqc lw_w504 (lqc lw_w540 (lqc lw_w222 (lqc lw_w233 (lqc lw_w232 (lqc lw_w83 (lqc lw_w539 (lqc lw_w538 (lqc lw_w537 lqn))))))))))))))))))))))))
set_option maxRecDepth 20000 in
theorem lw_l_wsL_eveningAct_r3 : ∀ w ∈ wsL_eveningAct_r3, w ∈ lw_tbl := (lqc lw_w536 (lqc lw_w535 (lqc lw_w534 (lqc lw_w553 (lqc lw_w552 (lqc lw_w551 (lqc lw_w550 (lqc lw_w549 (lqc lw_w548 (lqc lw_w547 (lqc lw_w546 (lqc lw_w545 (lqc lw_w482 (lqc lw_w481 (lqc lw_w480 (lqc lw_w86 (lqc lw_w544 (lqc lw_w494 (lqc lw_w509 (lqc lw_w508 (lqc lw_w88 (lqc lw_w543 (lqc lw_w180 (lqc lw_w179 lqn))))))))))))))))))))))))
set_option maxRecDepth 20000 in
theorem lw_l_wsL_eveningAct_r4 : ∀ w ∈ wsL_eveningAct_r4, w ∈ lw_tbl := (lqc lw_w57 (lqc lw_w178 (lqc lw_w53 (lqc lw_w188 (lqc lw_w187 (lqc lw_w585 (lqc lw_w584 (lqc lw_w583 (lqc lw_w582 (lqc lw_w570 (lqc lw_w569 (lqc lw_w568 (lqc lw_w567 (lqc lw_w566 (lqc lw_w565 (lqc lw_w564 (lqc lw_w563 (lqc lw_w562 (lqc lw_w561 (lqc lw_w38 (lqc lw_w560 (lqc lw_w559 (lqc lw_w558 (lqc lw_w557 lqn))))))))))))))))))))))))
set_option maxRecDepth 20000 in
theorem lw_l_wsL_eveningAct_r5 : ∀ w ∈ wsL_eveningAct_r5, w ∈ lw_tbl := (lqc lw_w556 (lqc lw_w555 (lqc lw_w554 (lqc lw_w576 (lqc lw_w575 lqn)))))
set_option maxRecDepth 20000 in
theorem lw_l_wsL_eveningAct : ∀ w ∈ wsL_eveningAct, w ∈ lw_tbl := (lqc lw_w577 (lqa (lqa (lqa (lqa (lqa (lqa (lqa lw_l_wsL_eveningAct_r1 (lqa lw_l_wsL_eveningAct_r2 (lqa lw_l_wsL_eveningAct_r3 (lqa lw_l_wsL_eveningAct_r4 lw_l_wsL_eveningAct_r5)))) lw_u_wsX110) lw_u_wsX20) lw_u_wsX70) lw_u_wsX40) lw_x3) lw_x1))
set_option maxRecDepth 20000 in
theorem lw_l_wsL_price_r1 : ∀ w ∈ wsL_price_r1, w ∈ lw_tbl := (lqc lw_w156 (lqc lw_w590 (lqc lw_w589 (lqc lw_w588 (lqc lw_w20 (lqc lw_w587 (lqc lw_w529 (lqc lw_w150 (lqc lw_w149 (lqc lw_w148 (lqc lw_w147 (lqc lw_w146 (lqc lw_w217 (lqc lw_w216 (lqc lw_w215 (lqc lw_w214 (lqc lw_w16 (lqc lw_w194 (lqc lw_w213 (lqc lw_w204 (lqc lw_w203 (lqc lw_w90 (lqc lw_w202 (lqc lw_w84 lqn))))))))))))))))))))))))
set_option maxRecDepth 20000 in
theorem lw_l_wsL_price_r2 : ∀ w ∈ wsL_price_r2, w ∈ lw_tbl := (lqc lw_w528 (lqc lw_w527 (lqc lw_w526 (lqc lw_w525 (lqc lw_w524 (lqc lw_w523 (lqc lw_w522 (lqc lw_w521 (lqc lw_w520 (lqc lw_w519 (lqc lw_w518 (lqc lw_w517 (lqc lw_w542 (lqc lw_w541 (lqc lw_w87 (lqc lw_w205 (lqc lw_w507 (lqc lw_w506 (lqc lw_w505 (lqc lw_w504 (lqc lw_w540 (lqc lw_w222 (lqc lw_w233 (lqc lw_w232 lqn))))))))))))))))))))))))
set_option maxRecDepth 20000 in
theorem lw_l_wsL_price_r3 : ∀ w ∈ wsL_price_r3, w ∈ lw_tbl := (lqc lw_w83 (lqc lw_w539 (lqc lw_w538 (lqc lw_w537 (lqc lw_w536 (lqc lw_w535 (lqc lw_w534 (lqc lw_w553 (lqc lw_w552 (lqc lw_w551 (lqc lw_w550 (lqc lw_w549 (lqc lw_w548 (lqc lw_w547 (lqc lw_w546 (lqc lw_w545 (lqc lw_w482 (lqc lw_w481 (lqc lw_w480 (lqc lw_w86 (lqc lw_w544 (lqc lw_w494 (lqc lw_w509 (lqc lw_w508 lqn))))))))))))))))))))))))
set_option maxRecDepth 20000 in
theorem lw_l_wsL_price_r4 : ∀ w ∈ wsL_price_r4, w ∈ lw_tbl := (lqc lw_w88 (lqc lw_w543 (lqc lw_w180 (lqc lw_w179 (lqc lw_w57 (lqc lw_w178 (lqc lw_w53 (lqc lw_w188 (lqc lw_w187 (lqc lw_w591 (lqc lw_w554 (lqc lw_w576 (lqc lw_w575 lqn)))))))))))))
set_option maxRecDepth 20000 in
theorem lw_l_wsL_price : ∀ w ∈ wsL_price, w ∈ lw_tbl := (lqc lw_w586 (lqa (lqa (lqa (lqa (lqa (lqa (lqa lw_l_wsL_price_r1 (lqa lw_l_wsL_price_r2 (lqa lw_l_wsL_price_r3 lw_l_wsL_price_r4))) lw_u_wsX110) lw_u_wsX50) lw_u_wsX70) lw_u_wsX20) lw_u_wsX40) lw_x1))
set_option maxRecDepth 20000 in
theorem lw_l_wsL_listeners_r1 : ∀ w ∈ wsL_listeners_r1, w ∈ lw_tbl := (lqc lw_w156 (lqc lw_w24 (lqc lw_w596 (lqc lw_w595 (lqc lw_w594 (lqc lw_w20 (lqc lw_w593 (lqc lw_w529 (lqc lw_w150 (lqc lw_w149 (lqc lw_w148 (lqc lw_w147 (lqc lw_w146 (lqc lw_w168 (lqc lw_w167 (lqc lw_w166 (lqc lw_w18 (lqc lw_w17 (lqc lw_w528 (lqc lw_w527 (lqc lw_w526 (lqc lw_w525 (lqc lw_w524 (lqc lw_w523 lqn))))))))))))))))))))))))
set_option maxRecDepth 20000 in
theorem lw_l_wsL_listeners_r2 : ∀ w ∈ wsL_listeners_r2, w ∈ lw_tbl := (lqc lw_w522 (lqc lw_w521 (lqc lw_w520 (lqc lw_w519 (lqc lw_w518 (lqc lw_w517 (lqc lw_w542 (lqc lw_w90 (lqc lw_w541 (lqc lw_w87 (lqc lw_w205 (lqc lw_w204 (lqc lw_w203 (lqc lw_w202 (lqc lw_w84 (lqc lw_w507 (lqc lw_w506 (lqc lw_w505 (lqc lw_w504 (lqc lw_w540 (lqc lw_w222 (lqc lw_w233 (lqc lw_w232 (lqc lw_w83 lqn))))))))))))))))))))))))
set_option maxRecDepth 20000 in
theorem lw_l_wsL_listeners_r3 : ∀ w ∈ wsL_listeners_r3, w ∈ lw_tbl := (lqc lw_w539 (lqc lw_w538 (lqc lw_w537 (lqc lw_w536 (lqc lw_w535 (lqc lw_w534 (lqc lw_w553 (lqc lw_w552 (lqc lw_w551 (lqc lw_w550 (lqc lw_w549 (lqc lw_w548 (lqc lw_w547 (lqc lw_w546 (lqc lw_w545 (lqc lw_w482 (lqc lw_w481 (lqc lw_w480 (lqc lw_w86 (lqc lw_w544 (lqc lw_w494 (lqc lw_w509 (lqc lw_w508 (lqc lw_w88 lqn))))))))))))))))))))))))
set_option maxRecDepth 20000 in
theorem lw_l_wsL_listeners_r4 : ∀ w ∈ wsL_listeners_r4, w ∈ lw_tbl := (lqc lw_w543 (lqc lw_w180 (lqc lw_w179 (lqc lw_w57 (lqc lw_w178 (lqc lw_w53 (lqc lw_w188 (lqc lw_w187 (lqc lw_w600 (lqc lw_w599 (lqc lw_w598 (lqc lw_w597 (lqc lw_w570 (lqc lw_w569 (lqc lw_w568 (lqc lw_w567 (lqc lw_w566 (lqc lw_w565 (lqc lw_w564 (lqc lw_w563 (lqc lw_w562 (lqc lw_w561 (lqc lw_w38 (lqc lw_w560 lqn))))))))))))))))))))))))
set_option maxRecDepth 20000 in
theorem lw_l_wsL_listeners_r5 : ∀ w ∈ wsL_listeners_r5, w ∈ lw_tbl := (lqc lw_w604 (lqc lw_w603 (lqc lw_w602 (lqc lw_w601 (lqc lw_w483 (lqc lw_w559 (lqc lw_w558 (lqc lw_w557 (lqc lw_w556 (lqc lw_w555 (lqc lw_w554 (lqc lw_w576 (lqc lw_w575 lqn)))))))))))))
set_option maxRecDepth 20000 in
theorem lw_l_wsL_listeners : ∀ w ∈ wsL_listeners, w ∈ lw_tbl := (lqc lw_w592 (lqa (lqa (lqa (lqa (lqa (lqa (lqa lw_l_wsL_listeners_r1 (lqa lw_l_wsL_listeners_r2 (lqa lw_l_wsL_listeners_r3 (lqa lw_l_wsL_listeners_r4 lw_l_wsL_listeners_r5)))) lw_u_wsX110) lw_u_wsX20) lw_u_wsX70) lw_u_wsX40) lw_x1) lw_x0))
set_option maxRecDepth 20000 in
theorem lw_l_wsL_line : ∀ w ∈ wsL_line, w ∈ lw_tbl := (lqc lw_w605 (lqa (lqa (lqa (lqa (lqc lw_w156 (lqc lw_w613 (lqc lw_w612 (lqc lw_w611 (lqc lw_w20 (lqc lw_w610 (lqc lw_w16 (lqc lw_w262 (lqc lw_w150 (lqc lw_w149 (lqc lw_w148 (lqc lw_w147 (lqc lw_w146 (lqc lw_w609 (lqc lw_w608 (lqc lw_w607 (lqc lw_w119 (lqc lw_w606 (lqc lw_w115 lqn))))))))))))))))))) lw_u_wsX110) lw_u_wsX50) lw_u_wsX00) lw_x1))
set_option maxRecDepth 20000 in
theorem lw_l_wsL_front_r1 : ∀ w ∈ wsL_front_r1, w ∈ lw_tbl := (lqc lw_w156 (lqc lw_w397 (lqc lw_w620 (lqc lw_w619 (lqc lw_w618 (lqc lw_w20 (lqc lw_w617 (lqc lw_w388 (lqc lw_w387 (lqc lw_w16 (lqc lw_w262 (lqc lw_w616 (lqc lw_w150 (lqc lw_w149 (lqc lw_w148 (lqc lw_w147 (lqc lw_w146 (lqc lw_w615 (lqc lw_w287 (lqc lw_w286 (lqc lw_w119 (lqc lw_w285 (lqc lw_w116 (lqc lw_w117 lqn))))))))))))))))))))))))
set_option maxRecDepth 20000 in
theorem lw_l_wsL_front_r2 : ∀ w ∈ wsL_front_r2, w ∈ lw_tbl := (lqc lw_w284 (lqc lw_w270 (lqc lw_w269 (lqc lw_w268 (lqc lw_w115 lqn)))))
set_option maxRecDepth 20000 in
theorem lw_l_wsL_front : ∀ w ∈ wsL_front, w ∈ lw_tbl := (lqc lw_w614 (lqa (lqa (lqa (lqa (lqa (lqa lw_l_wsL_front_r1 lw_l_wsL_front_r2) lw_u_wsX110) lw_u_wsX50) lw_u_wsX00) lw_x3) lw_x1))
set_option maxRecDepth 20000 in
theorem lw_l_wsL_waitOf_r1 : ∀ w ∈ wsL_waitOf_r1, w ∈ lw_tbl := (lqc lw_w156 (lqc lw_w625 (lqc lw_w624 (lqc lw_w623 (lqc lw_w20 (lqc lw_w622 (lqc lw_w16 (lqc lw_w262 (lqc lw_w150 (lqc lw_w149 (lqc lw_w148 (lqc lw_w147 (lqc lw_w146 (lqc lw_w283 (lqc lw_w282 (lqc lw_w281 (lqc lw_w119 (lqc lw_w280 (lqc lw_w116 (lqc lw_w117 (lqc lw_w114 (lqc lw_w113 (lqc lw_w284 (lqc lw_w270 lqn))))))))))))))))))))))))
set_option maxRecDepth 20000 in
theorem lw_l_wsL_waitOf_r2 : ∀ w ∈ wsL_waitOf_r2, w ∈ lw_tbl := (lqc lw_w269 (lqc lw_w268 (lqc lw_w115 lqn)))
set_option maxRecDepth 20000 in
theorem lw_l_wsL_waitOf : ∀ w ∈ wsL_waitOf, w ∈ lw_tbl := (lqc lw_w621 (lqa (lqa (lqa (lqa (lqa lw_l_wsL_waitOf_r1 lw_l_wsL_waitOf_r2) lw_u_wsX110) lw_u_wsX50) lw_u_wsX00) lw_x1))
set_option maxRecDepth 20000 in
theorem lw_l_wsL_helpers_r1 : ∀ w ∈ wsL_helpers_r1, w ∈ lw_tbl := (lqc lw_w156 (lqc lw_w637 (lqc lw_w636 (lqc lw_w635 (lqc lw_w20 (lqc lw_w634 (lqc lw_w16 (lqc lw_w312 (lqc lw_w633 (lqc lw_w150 (lqc lw_w149 (lqc lw_w148 (lqc lw_w147 (lqc lw_w146 (lqc lw_w632 (lqc lw_w631 (lqc lw_w630 (lqc lw_w108 (lqc lw_w629 (lqc lw_w628 (lqc lw_w106 (lqc lw_w105 (lqc lw_w627 (lqc lw_w39 lqn))))))))))))))))))))))))
set_option maxRecDepth 20000 in
theorem lw_l_wsL_helpers_r2 : ∀ w ∈ wsL_helpers_r2, w ∈ lw_tbl := (lqc lw_w38 (lqc lw_w37 (lqc lw_w520 (lqc lw_w519 (lqc lw_w648 (lqc lw_w647 (lqc lw_w646 (lqc lw_w645 (lqc lw_w644 (lqc lw_w561 (lqc lw_w560 (lqc lw_w643 (lqc lw_w642 (lqc lw_w641 (lqc lw_w640 (lqc lw_w639 (lqc lw_w638 lqn)))))))))))))))))
set_option maxRecDepth 20000 in
theorem lw_l_wsL_helpers : ∀ w ∈ wsL_helpers, w ∈ lw_tbl := (lqc lw_w626 (lqa (lqa (lqa (lqa (lqa lw_l_wsL_helpers_r1 lw_l_wsL_helpers_r2) lw_u_wsX110) lw_u_wsX50) lw_u_wsX100) lw_x1))
set_option maxRecDepth 20000 in
theorem lw_l_wsL_isOn_r1 : ∀ w ∈ wsL_isOn_r1, w ∈ lw_tbl := (lqc lw_w156 (lqc lw_w397 (lqc lw_w658 (lqc lw_w657 (lqc lw_w656 (lqc lw_w20 (lqc lw_w655 (lqc lw_w388 (lqc lw_w387 (lqc lw_w16 (lqc lw_w325 (lqc lw_w150 (lqc lw_w149 (lqc lw_w148 (lqc lw_w147 (lqc lw_w146 (lqc lw_w654 (lqc lw_w653 (lqc lw_w652 (lqc lw_w101 (lqc lw_w651 (lqc lw_w98 (lqc lw_w650 (lqc lw_w97 lqn))))))))))))))))))))))))
set_option maxRecDepth 20000 in
theorem lw_l_wsL_isOn_r2 : ∀ w ∈ wsL_isOn_r2, w ∈ lw_tbl := (lqc lw_w675 (lqc lw_w144 (lqc lw_w674 (lqc lw_w673 (lqc lw_w672 (lqc lw_w671 (lqc lw_w670 (lqc lw_w520 (lqc lw_w519 (lqc lw_w669 (lqc lw_w668 (lqc lw_w667 (lqc lw_w666 (lqc lw_w665 (lqc lw_w664 (lqc lw_w663 (lqc lw_w662 (lqc lw_w661 (lqc lw_w99 (lqc lw_w660 (lqc lw_w39 (lqc lw_w38 (lqc lw_w37 (lqc lw_w659 lqn))))))))))))))))))))))))
set_option maxRecDepth 20000 in
theorem lw_l_wsL_isOn_r3 : ∀ w ∈ wsL_isOn_r3, w ∈ lw_tbl := (lqc lw_w682 (lqc lw_w681 (lqc lw_w680 (lqc lw_w679 (lqc lw_w678 (lqc lw_w677 (lqc lw_w676 lqn)))))))
set_option maxRecDepth 20000 in
theorem lw_l_wsL_isOn : ∀ w ∈ wsL_isOn, w ∈ lw_tbl := (lqc lw_w649 (lqa (lqa (lqa (lqa (lqa (lqa lw_l_wsL_isOn_r1 (lqa lw_l_wsL_isOn_r2 lw_l_wsL_isOn_r3)) lw_u_wsX110) lw_u_wsX50) lw_u_wsX60) lw_x3) lw_x1))
set_option maxRecDepth 20000 in
theorem lw_l_wsL_rain_r1 : ∀ w ∈ wsL_rain_r1, w ∈ lw_tbl := (lqc lw_w24 (lqc lw_w201 (lqc lw_w695 (lqc lw_w694 (lqc lw_w693 (lqc lw_w20 (lqc lw_w692 (lqc lw_w196 (lqc lw_w195 (lqc lw_w48 (lqc lw_w168 (lqc lw_w167 (lqc lw_w166 (lqc lw_w18 (lqc lw_w17 (lqc lw_w691 (lqc lw_w690 (lqc lw_w689 (lqc lw_w128 (lqc lw_w688 (lqc lw_w687 (lqc lw_w686 (lqc lw_w685 (lqc lw_w684 lqn))))))))))))))))))))))))
set_option maxRecDepth 20000 in
theorem lw_l_wsL_rain_r2 : ∀ w ∈ wsL_rain_r2, w ∈ lw_tbl := (lqc lw_w349 (lqc lw_w699 (lqc lw_w698 (lqc lw_w603 (lqc lw_w602 (lqc lw_w90 (lqc lw_w601 (lqc lw_w87 (lqc lw_w205 (lqc lw_w204 (lqc lw_w203 (lqc lw_w202 (lqc lw_w84 (lqc lw_w483 (lqc lw_w482 (lqc lw_w481 (lqc lw_w480 (lqc lw_w86 (lqc lw_w697 (lqc lw_w494 (lqc lw_w509 (lqc lw_w508 (lqc lw_w88 (lqc lw_w696 lqn))))))))))))))))))))))))
set_option maxRecDepth 20000 in
theorem lw_l_wsL_rain_r3 : ∀ w ∈ wsL_rain_r3, w ∈ lw_tbl := (lqc lw_w159 (lqc lw_w158 (lqc lw_w57 (lqc lw_w157 (lqc lw_w55 (lqc lw_w714 (lqc lw_w713 (lqc lw_w712 (lqc lw_w711 (lqc lw_w350 (lqc lw_w710 (lqc lw_w709 (lqc lw_w708 (lqc lw_w126 (lqc lw_w520 (lqc lw_w519 (lqc lw_w707 (lqc lw_w706 (lqc lw_w705 (lqc lw_w704 (lqc lw_w703 (lqc lw_w702 (lqc lw_w701 (lqc lw_w700 lqn))))))))))))))))))))))))
set_option maxRecDepth 20000 in
theorem lw_l_wsL_rain_r4 : ∀ w ∈ wsL_rain_r4, w ∈ lw_tbl := (lqc lw_w188 (lqc lw_w187 (lqc lw_w719 (lqc lw_w718 (lqc lw_w717 (lqc lw_w716 (lqc lw_w715 (lqc lw_w486 (lqc lw_w485 (lqc lw_w484 (lqc lw_w85 lqn)))))))))))
set_option maxRecDepth 20000 in
theorem lw_l_wsL_rain : ∀ w ∈ wsL_rain, w ∈ lw_tbl := (lqc lw_w683 (lqa (lqa (lqa (lqa (lqa (lqa (lqa lw_l_wsL_rain_r1 (lqa lw_l_wsL_rain_r2 (lqa lw_l_wsL_rain_r3 lw_l_wsL_rain_r4))) lw_u_wsX110) lw_u_wsX90) lw_u_wsX70) lw_u_wsX40) lw_x2) lw_x0))
set_option maxRecDepth 20000 in
theorem lw_l_wsL_movedTo : ∀ w ∈ wsL_movedTo, w ∈ lw_tbl := (lqc lw_w720 (lqa (lqa (lqa (lqa (lqa (lqc lw_w156 (lqc lw_w725 (lqc lw_w724 (lqc lw_w723 (lqc lw_w20 (lqc lw_w722 (lqc lw_w48 (lqc lw_w339 (lqc lw_w721 (lqc lw_w217 (lqc lw_w216 (lqc lw_w215 (lqc lw_w214 (lqc lw_w147 (lqc lw_w146 (lqc lw_w16 (lqc lw_w194 (lqc lw_w213 (lqc lw_w204 (lqc lw_w203 (lqc lw_w90 (lqc lw_w202 (lqc lw_w84 lqn))))))))))))))))))))))) lw_u_wsX110) lw_u_wsX90) lw_u_wsX50) lw_u_wsX70) lw_x1))
set_option maxRecDepth 20000 in
theorem lw_l_wsL_ticketAt : ∀ w ∈ wsL_ticketAt, w ∈ lw_tbl := (lqc lw_w726 (lqa (lqa (lqa (lqa (lqc lw_w156 (lqc lw_w731 (lqc lw_w730 (lqc lw_w729 (lqc lw_w20 (lqc lw_w728 (lqc lw_w16 (lqc lw_w357 (lqc lw_w727 (lqc lw_w150 (lqc lw_w149 (lqc lw_w148 (lqc lw_w147 (lqc lw_w146 lqn)))))))))))))) lw_u_wsX110) lw_u_wsX50) lw_u_wsX80) lw_x1))
set_option maxRecDepth 20000 in
theorem lw_l_wsL_balance : ∀ w ∈ wsL_balance, w ∈ lw_tbl := (lqc lw_w732 (lqa (lqa (lqa (lqa (lqa (lqc lw_w24 (lqc lw_w156 (lqc lw_w739 (lqc lw_w738 (lqc lw_w737 (lqc lw_w20 (lqc lw_w736 (lqc lw_w16 (lqc lw_w357 (lqc lw_w735 (lqc lw_w734 (lqc lw_w733 (lqc lw_w168 (lqc lw_w167 (lqc lw_w166 (lqc lw_w18 (lqc lw_w17 (lqc lw_w150 (lqc lw_w149 (lqc lw_w148 (lqc lw_w147 (lqc lw_w146 lqn)))))))))))))))))))))) lw_u_wsX110) lw_u_wsX50) lw_u_wsX80) lw_x0) lw_x1))
set_option maxRecDepth 20000 in
theorem lw_l_wsL_meanEvening_r1 : ∀ w ∈ wsL_meanEvening_r1, w ∈ lw_tbl := (lqc lw_w156 (lqc lw_w745 (lqc lw_w744 (lqc lw_w743 (lqc lw_w20 (lqc lw_w742 (lqc lw_w529 (lqc lw_w741 (lqc lw_w150 (lqc lw_w149 (lqc lw_w148 (lqc lw_w147 (lqc lw_w146 (lqc lw_w528 (lqc lw_w527 (lqc lw_w526 (lqc lw_w525 (lqc lw_w524 (lqc lw_w523 (lqc lw_w522 (lqc lw_w521 (lqc lw_w520 (lqc lw_w519 (lqc lw_w518 lqn))))))))))))))))))))))))
set_option maxRecDepth 20000 in
theorem lw_l_wsL_meanEvening_r2 : ∀ w ∈ wsL_meanEvening_r2, w ∈ lw_tbl := (lqc lw_w517 (lqc lw_w542 (lqc lw_w90 (lqc lw_w541 (lqc lw_w87 (lqc lw_w205 (lqc lw_w204 (lqc lw_w203 (lqc lw_w202 (lqc lw_w84 (lqc lw_w507 (lqc lw_w506 (lqc lw_w505 (lqc lw_w504 (lqc lw_w540 (lqc lw_w222 (lqc lw_w233 (lqc lw_w232 (lqc lw_w83 (lqc lw_w539 (lqc lw_w538 (lqc lw_w537 (lqc lw_w536 (lqc lw_w535 lqn))))))))))))))))))))))))
set_option maxRecDepth 20000 in
theorem lw_l_wsL_meanEvening_r3 : ∀ w ∈ wsL_meanEvening_r3, w ∈ lw_tbl := (lqc lw_w534 (lqc lw_w553 (lqc lw_w552 (lqc lw_w551 (lqc lw_w550 (lqc lw_w549 (lqc lw_w548 (lqc lw_w547 (lqc lw_w546 (lqc lw_w545 (lqc lw_w482 (lqc lw_w481 (lqc lw_w480 (lqc lw_w86 (lqc lw_w544 (lqc lw_w494 (lqc lw_w509 (lqc lw_w508 (lqc lw_w88 (lqc lw_w543 (lqc lw_w180 (lqc lw_w179 (lqc lw_w57 (lqc lw_w178 lqn))))))))))))))))))))))))
set_option maxRecDepth 20000 in
theorem lw_l_wsL_meanEvening_r4 : ∀ w ∈ wsL_meanEvening_r4, w ∈ lw_tbl := (lqc lw_w53 (lqc lw_w188 (lqc lw_w187 (lqc lw_w574 (lqc lw_w573 (lqc lw_w572 (lqc lw_w571 (lqc lw_w570 (lqc lw_w569 (lqc lw_w568 (lqc lw_w567 (lqc lw_w566 (lqc lw_w565 (lqc lw_w564 (lqc lw_w563 (lqc lw_w562 (lqc lw_w561 (lqc lw_w38 (lqc lw_w560 (lqc lw_w559 (lqc lw_w558 (lqc lw_w557 (lqc lw_w556 (lqc lw_w555 lqn))))))))))))))))))))))))
set_option maxRecDepth 20000 in
theorem lw_l_wsL_meanEvening_r5 : ∀ w ∈ wsL_meanEvening_r5, w ∈ lw_tbl := (lqc lw_w554 (lqc lw_w576 (lqc lw_w575 lqn)))
set_option maxRecDepth 20000 in
theorem lw_l_wsL_meanEvening : ∀ w ∈ wsL_meanEvening, w ∈ lw_tbl := (lqc lw_w740 (lqa (lqa (lqa (lqa (lqa (lqa lw_l_wsL_meanEvening_r1 (lqa lw_l_wsL_meanEvening_r2 (lqa lw_l_wsL_meanEvening_r3 (lqa lw_l_wsL_meanEvening_r4 lw_l_wsL_meanEvening_r5)))) lw_u_wsX110) lw_u_wsX20) lw_u_wsX70) lw_u_wsX40) lw_x1))
set_option maxRecDepth 20000 in
theorem lw_l_wsX12_setDate_r1 : ∀ w ∈ wsX12_setDate_r1, w ∈ lw_tbl := (lqc lw_w770 (lqc lw_w769 (lqc lw_w768 (lqc lw_w767 (lqc lw_w766 (lqc lw_w765 (lqc lw_w764 (lqc lw_w763 (lqc lw_w762 (lqc lw_w761 (lqc lw_w760 (lqc lw_w759 (lqc lw_w758 (lqc lw_w757 (lqc lw_w756 (lqc lw_w755 (lqc lw_w754 (lqc lw_w753 (lqc lw_w752 (lqc lw_w751 (lqc lw_w750 (lqc lw_w749 (lqc lw_w748 (lqc lw_w747 lqn))))))))))))))))))))))))
set_option maxRecDepth 20000 in
theorem lw_l_wsX12_setDate_r2 : ∀ w ∈ wsX12_setDate_r2, w ∈ lw_tbl := (lqc lw_w777 (lqc lw_w776 (lqc lw_w775 (lqc lw_w96 (lqc lw_w95 (lqc lw_w94 (lqc lw_w774 (lqc lw_w773 (lqc lw_w772 (lqc lw_w771 lqn))))))))))
set_option maxRecDepth 20000 in
theorem lw_l_wsX12_setDate : ∀ w ∈ wsX12_setDate, w ∈ lw_tbl := (lqc lw_w746 (lqa (lqa lw_l_wsX12_setDate_r1 lw_l_wsX12_setDate_r2) lw_u_wsX120))
set_option maxRecDepth 20000 in
theorem lw_l_wsX12_thrown : ∀ w ∈ wsX12_thrown, w ∈ lw_tbl := (lqc lw_w778 (lqa (lqc lw_w755 lqn) lw_u_wsX120))
set_option maxRecDepth 20000 in
theorem lw_l_wsX12_setOpen_r1 : ∀ w ∈ wsX12_setOpen_r1, w ∈ lw_tbl := (lqc lw_w786 (lqc lw_w785 (lqc lw_w767 (lqc lw_w784 (lqc lw_w769 (lqc lw_w768 (lqc lw_w766 (lqc lw_w759 (lqc lw_w758 (lqc lw_w757 (lqc lw_w756 (lqc lw_w755 (lqc lw_w754 (lqc lw_w753 (lqc lw_w752 (lqc lw_w751 (lqc lw_w783 (lqc lw_w782 (lqc lw_w781 (lqc lw_w780 (lqc lw_w770 (lqc lw_w750 (lqc lw_w749 (lqc lw_w748 lqn))))))))))))))))))))))))
set_option maxRecDepth 20000 in
theorem lw_l_wsX12_setOpen_r2 : ∀ w ∈ wsX12_setOpen_r2, w ∈ lw_tbl := (lqc lw_w747 (lqc lw_w777 (lqc lw_w776 (lqc lw_w775 (lqc lw_w96 (lqc lw_w95 (lqc lw_w94 (lqc lw_w774 lqn))))))))
set_option maxRecDepth 20000 in
theorem lw_l_wsX12_setOpen : ∀ w ∈ wsX12_setOpen, w ∈ lw_tbl := (lqc lw_w779 (lqa (lqa lw_l_wsX12_setOpen_r1 lw_l_wsX12_setOpen_r2) lw_u_wsX120))
set_option maxRecDepth 20000 in
theorem lw_l_wsX12_setWay_r1 : ∀ w ∈ wsX12_setWay_r1, w ∈ lw_tbl := (lqc lw_w770 (lqc lw_w786 (lqc lw_w785 (lqc lw_w767 (lqc lw_w784 (lqc lw_w769 (lqc lw_w768 (lqc lw_w766 (lqc lw_w759 (lqc lw_w758 (lqc lw_w757 (lqc lw_w756 (lqc lw_w755 (lqc lw_w754 (lqc lw_w753 (lqc lw_w752 (lqc lw_w751 (lqc lw_w750 (lqc lw_w749 (lqc lw_w748 (lqc lw_w747 (lqc lw_w777 (lqc lw_w776 (lqc lw_w775 lqn))))))))))))))))))))))))
set_option maxRecDepth 20000 in
theorem lw_l_wsX12_setWay_r2 : ∀ w ∈ wsX12_setWay_r2, w ∈ lw_tbl := (lqc lw_w96 (lqc lw_w95 (lqc lw_w94 (lqc lw_w774 (lqc lw_w792 (lqc lw_w791 (lqc lw_w790 (lqc lw_w789 (lqc lw_w788 (lqc lw_w39 (lqc lw_w38 (lqc lw_w37 lqn))))))))))))
set_option maxRecDepth 20000 in
theorem lw_l_wsX12_setWay : ∀ w ∈ wsX12_setWay, w ∈ lw_tbl := (lqc lw_w787 (lqa (lqa lw_l_wsX12_setWay_r1 lw_l_wsX12_setWay_r2) lw_u_wsX120))
set_option maxRecDepth 20000 in
theorem lw_l_wsX12_act_r1 : ∀ w ∈ wsX12_act_r1, w ∈ lw_tbl := (lqc lw_w770 (lqc lw_w786 (lqc lw_w785 (lqc lw_w767 (lqc lw_w784 (lqc lw_w769 (lqc lw_w768 (lqc lw_w766 (lqc lw_w759 (lqc lw_w758 (lqc lw_w757 (lqc lw_w756 (lqc lw_w755 (lqc lw_w754 (lqc lw_w753 (lqc lw_w752 (lqc lw_w751 (lqc lw_w797 (lqc lw_w796 (lqc lw_w795 (lqc lw_w794 (lqc lw_w750 (lqc lw_w749 (lqc lw_w748 lqn))))))))))))))))))))))))
set_option maxRecDepth 20000 in
theorem lw_l_wsX12_act_r2 : ∀ w ∈ wsX12_act_r2, w ∈ lw_tbl := (lqc lw_w747 (lqc lw_w777 (lqc lw_w776 (lqc lw_w775 (lqc lw_w96 (lqc lw_w95 (lqc lw_w94 (lqc lw_w774 lqn))))))))
set_option maxRecDepth 20000 in
theorem lw_l_wsX12_act : ∀ w ∈ wsX12_act, w ∈ lw_tbl := (lqc lw_w793 (lqa (lqa lw_l_wsX12_act_r1 lw_l_wsX12_act_r2) lw_u_wsX120))
set_option maxRecDepth 20000 in
theorem lw_l_wsX12_drop_r1 : ∀ w ∈ wsX12_drop_r1, w ∈ lw_tbl := (lqc lw_w802 (lqc lw_w801 (lqc lw_w800 (lqc lw_w767 (lqc lw_w799 (lqc lw_w769 (lqc lw_w768 (lqc lw_w766 (lqc lw_w797 (lqc lw_w796 (lqc lw_w795 (lqc lw_w794 (lqc lw_w770 (lqc lw_w759 (lqc lw_w758 (lqc lw_w757 (lqc lw_w756 (lqc lw_w755 (lqc lw_w754 (lqc lw_w753 (lqc lw_w752 (lqc lw_w751 (lqc lw_w750 (lqc lw_w749 lqn))))))))))))))))))))))))
set_option maxRecDepth 20000 in
theorem lw_l_wsX12_drop_r2 : ∀ w ∈ wsX12_drop_r2, w ∈ lw_tbl := (lqc lw_w748 (lqc lw_w747 (lqc lw_w777 (lqc lw_w776 (lqc lw_w775 (lqc lw_w96 (lqc lw_w95 (lqc lw_w94 (lqc lw_w774 (lqc lw_w814 (lqc lw_w813 (lqc lw_w812 (lqc lw_w811 (lqc lw_w810 (lqc lw_w809 (lqc lw_w808 (lqc lw_w807 (lqc lw_w806 (lqc lw_w805 (lqc lw_w804 (lqc lw_w803 lqn)))))))))))))))))))))
set_option maxRecDepth 20000 in
theorem lw_l_wsX12_drop : ∀ w ∈ wsX12_drop, w ∈ lw_tbl := (lqc lw_w798 (lqa (lqa lw_l_wsX12_drop_r1 lw_l_wsX12_drop_r2) lw_u_wsX120))
set_option maxRecDepth 20000 in
theorem lw_l_wsX12_wish_r1 : ∀ w ∈ wsX12_wish_r1, w ∈ lw_tbl := (lqc lw_w818 (lqc lw_w817 (lqc lw_w767 (lqc lw_w816 (lqc lw_w769 (lqc lw_w768 (lqc lw_w766 (lqc lw_w802 (lqc lw_w801 (lqc lw_w800 (lqc lw_w799 (lqc lw_w797 (lqc lw_w796 (lqc lw_w795 (lqc lw_w794 (lqc lw_w770 (lqc lw_w759 (lqc lw_w758 (lqc lw_w757 (lqc lw_w756 (lqc lw_w755 (lqc lw_w754 (lqc lw_w753 (lqc lw_w752 lqn))))))))))))))))))))))))
set_option maxRecDepth 20000 in
theorem lw_l_wsX12_wish_r2 : ∀ w ∈ wsX12_wish_r2, w ∈ lw_tbl := (lqc lw_w751 (lqc lw_w783 (lqc lw_w782 (lqc lw_w781 (lqc lw_w780 (lqc lw_w750 (lqc lw_w749 (lqc lw_w748 (lqc lw_w747 (lqc lw_w777 (lqc lw_w776 (lqc lw_w775 (lqc lw_w96 (lqc lw_w95 (lqc lw_w94 (lqc lw_w774 lqn))))))))))))))))
set_option maxRecDepth 20000 in
theorem lw_l_wsX12_wish : ∀ w ∈ wsX12_wish, w ∈ lw_tbl := (lqc lw_w815 (lqa (lqa lw_l_wsX12_wish_r1 lw_l_wsX12_wish_r2) lw_u_wsX120))
set_option maxRecDepth 20000 in
theorem lw_l_wsX12_setGate_r1 : ∀ w ∈ wsX12_setGate_r1, w ∈ lw_tbl := (lqc lw_w822 (lqc lw_w821 (lqc lw_w767 (lqc lw_w820 (lqc lw_w769 (lqc lw_w768 (lqc lw_w766 (lqc lw_w759 (lqc lw_w758 (lqc lw_w757 (lqc lw_w756 (lqc lw_w755 (lqc lw_w754 (lqc lw_w753 (lqc lw_w752 (lqc lw_w751 (lqc lw_w783 (lqc lw_w782 (lqc lw_w781 (lqc lw_w780 (lqc lw_w770 (lqc lw_w750 (lqc lw_w749 (lqc lw_w748 lqn))))))))))))))))))))))))
set_option maxRecDepth 20000 in
theorem lw_l_wsX12_setGate_r2 : ∀ w ∈ wsX12_setGate_r2, w ∈ lw_tbl := (lqc lw_w747 (lqc lw_w777 (lqc lw_w776 (lqc lw_w775 (lqc lw_w96 (lqc lw_w95 (lqc lw_w94 (lqc lw_w774 lqn))))))))
set_option maxRecDepth 20000 in
theorem lw_l_wsX12_setGate : ∀ w ∈ wsX12_setGate, w ∈ lw_tbl := (lqc lw_w819 (lqa (lqa lw_l_wsX12_setGate_r1 lw_l_wsX12_setGate_r2) lw_u_wsX120))
set_option maxRecDepth 20000 in
theorem lw_l_wsX12_setReach_r1 : ∀ w ∈ wsX12_setReach_r1, w ∈ lw_tbl := (lqc lw_w822 (lqc lw_w821 (lqc lw_w767 (lqc lw_w820 (lqc lw_w769 (lqc lw_w768 (lqc lw_w766 (lqc lw_w786 (lqc lw_w785 (lqc lw_w784 (lqc lw_w759 (lqc lw_w758 (lqc lw_w757 (lqc lw_w756 (lqc lw_w755 (lqc lw_w754 (lqc lw_w753 (lqc lw_w752 (lqc lw_w751 (lqc lw_w783 (lqc lw_w782 (lqc lw_w781 (lqc lw_w780 (lqc lw_w770 lqn))))))))))))))))))))))))
set_option maxRecDepth 20000 in
theorem lw_l_wsX12_setReach_r2 : ∀ w ∈ wsX12_setReach_r2, w ∈ lw_tbl := (lqc lw_w750 (lqc lw_w749 (lqc lw_w748 (lqc lw_w747 (lqc lw_w777 (lqc lw_w776 (lqc lw_w775 (lqc lw_w96 (lqc lw_w95 (lqc lw_w94 (lqc lw_w774 lqn)))))))))))
set_option maxRecDepth 20000 in
theorem lw_l_wsX12_setReach : ∀ w ∈ wsX12_setReach, w ∈ lw_tbl := (lqc lw_w823 (lqa (lqa lw_l_wsX12_setReach_r1 lw_l_wsX12_setReach_r2) lw_u_wsX120))
set_option maxRecDepth 20000 in
theorem lw_l_wsX12_setCrowd_r1 : ∀ w ∈ wsX12_setCrowd_r1, w ∈ lw_tbl := (lqc lw_w786 (lqc lw_w785 (lqc lw_w767 (lqc lw_w784 (lqc lw_w769 (lqc lw_w768 (lqc lw_w766 (lqc lw_w759 (lqc lw_w758 (lqc lw_w757 (lqc lw_w756 (lqc lw_w755 (lqc lw_w754 (lqc lw_w753 (lqc lw_w752 (lqc lw_w751 (lqc lw_w783 (lqc lw_w782 (lqc lw_w781 (lqc lw_w780 (lqc lw_w770 (lqc lw_w750 (lqc lw_w749 (lqc lw_w748 lqn))))))))))))))))))))))))
set_option maxRecDepth 20000 in
theorem lw_l_wsX12_setCrowd_r2 : ∀ w ∈ wsX12_setCrowd_r2, w ∈ lw_tbl := (lqc lw_w747 (lqc lw_w777 (lqc lw_w776 (lqc lw_w775 (lqc lw_w96 (lqc lw_w95 (lqc lw_w94 (lqc lw_w774 lqn))))))))
set_option maxRecDepth 20000 in
theorem lw_l_wsX12_setCrowd : ∀ w ∈ wsX12_setCrowd, w ∈ lw_tbl := (lqc lw_w824 (lqa (lqa lw_l_wsX12_setCrowd_r1 lw_l_wsX12_setCrowd_r2) lw_u_wsX120))
set_option maxRecDepth 20000 in
theorem lw_l_wsX12_setServing_r1 : ∀ w ∈ wsX12_setServing_r1, w ∈ lw_tbl := (lqc lw_w769 (lqc lw_w768 (lqc lw_w767 (lqc lw_w766 (lqc lw_w759 (lqc lw_w758 (lqc lw_w757 (lqc lw_w756 (lqc lw_w755 (lqc lw_w754 (lqc lw_w753 (lqc lw_w752 (lqc lw_w751 (lqc lw_w783 (lqc lw_w782 (lqc lw_w781 (lqc lw_w780 (lqc lw_w770 (lqc lw_w750 (lqc lw_w749 (lqc lw_w748 (lqc lw_w747 (lqc lw_w777 (lqc lw_w776 lqn))))))))))))))))))))))))
set_option maxRecDepth 20000 in
theorem lw_l_wsX12_setServing_r2 : ∀ w ∈ wsX12_setServing_r2, w ∈ lw_tbl := (lqc lw_w775 (lqc lw_w96 (lqc lw_w95 (lqc lw_w94 (lqc lw_w774 lqn)))))
set_option maxRecDepth 20000 in
theorem lw_l_wsX12_setServing : ∀ w ∈ wsX12_setServing, w ∈ lw_tbl := (lqc lw_w825 (lqa (lqa lw_l_wsX12_setServing_r1 lw_l_wsX12_setServing_r2) lw_u_wsX120))
set_option maxRecDepth 20000 in
theorem lw_l_wsX12_join_r1 : ∀ w ∈ wsX12_join_r1, w ∈ lw_tbl := (lqc lw_w770 (lqc lw_w833 (lqc lw_w832 (lqc lw_w767 (lqc lw_w831 (lqc lw_w769 (lqc lw_w768 (lqc lw_w766 (lqc lw_w818 (lqc lw_w817 (lqc lw_w816 (lqc lw_w759 (lqc lw_w758 (lqc lw_w757 (lqc lw_w756 (lqc lw_w755 (lqc lw_w754 (lqc lw_w753 (lqc lw_w752 (lqc lw_w751 (lqc lw_w830 (lqc lw_w829 (lqc lw_w828 (lqc lw_w827 lqn))))))))))))))))))))))))
set_option maxRecDepth 20000 in
theorem lw_l_wsX12_join_r2 : ∀ w ∈ wsX12_join_r2, w ∈ lw_tbl := (lqc lw_w846 (lqc lw_w845 (lqc lw_w844 (lqc lw_w843 (lqc lw_w842 (lqc lw_w841 (lqc lw_w840 (lqc lw_w839 (lqc lw_w750 (lqc lw_w749 (lqc lw_w748 (lqc lw_w747 (lqc lw_w777 (lqc lw_w776 (lqc lw_w775 (lqc lw_w96 (lqc lw_w95 (lqc lw_w94 (lqc lw_w774 (lqc lw_w838 (lqc lw_w837 (lqc lw_w836 (lqc lw_w835 (lqc lw_w834 lqn))))))))))))))))))))))))
set_option maxRecDepth 20000 in
theorem lw_l_wsX12_join_r3 : ∀ w ∈ wsX12_join_r3, w ∈ lw_tbl := (lqc lw_w849 (lqc lw_w848 (lqc lw_w847 lqn)))
set_option maxRecDepth 20000 in
theorem lw_l_wsX12_join : ∀ w ∈ wsX12_join, w ∈ lw_tbl := (lqc lw_w826 (lqa (lqa lw_l_wsX12_join_r1 (lqa lw_l_wsX12_join_r2 lw_l_wsX12_join_r3)) lw_u_wsX120))
set_option maxRecDepth 20000 in
theorem lw_l_wsX12_leave_r1 : ∀ w ∈ wsX12_leave_r1, w ∈ lw_tbl := (lqc lw_w818 (lqc lw_w817 (lqc lw_w767 (lqc lw_w816 (lqc lw_w769 (lqc lw_w768 (lqc lw_w766 (lqc lw_w759 (lqc lw_w758 (lqc lw_w757 (lqc lw_w756 (lqc lw_w755 (lqc lw_w754 (lqc lw_w753 (lqc lw_w752 (lqc lw_w751 (lqc lw_w830 (lqc lw_w829 (lqc lw_w828 (lqc lw_w827 (lqc lw_w846 (lqc lw_w845 (lqc lw_w844 (lqc lw_w843 lqn))))))))))))))))))))))))
set_option maxRecDepth 20000 in
theorem lw_l_wsX12_leave_r2 : ∀ w ∈ wsX12_leave_r2, w ∈ lw_tbl := (lqc lw_w770 (lqc lw_w842 (lqc lw_w841 (lqc lw_w840 (lqc lw_w839 (lqc lw_w750 (lqc lw_w749 (lqc lw_w748 (lqc lw_w747 (lqc lw_w777 (lqc lw_w776 (lqc lw_w775 (lqc lw_w96 (lqc lw_w95 (lqc lw_w94 (lqc lw_w774 (lqc lw_w854 (lqc lw_w853 (lqc lw_w852 (lqc lw_w851 lqn))))))))))))))))))))
set_option maxRecDepth 20000 in
theorem lw_l_wsX12_leave : ∀ w ∈ wsX12_leave, w ∈ lw_tbl := (lqc lw_w850 (lqa (lqa lw_l_wsX12_leave_r1 lw_l_wsX12_leave_r2) lw_u_wsX120))
set_option maxRecDepth 20000 in
theorem lw_l_wsX12_pass_r1 : ∀ w ∈ wsX12_pass_r1, w ∈ lw_tbl := (lqc lw_w770 (lqc lw_w769 (lqc lw_w768 (lqc lw_w767 (lqc lw_w766 (lqc lw_w759 (lqc lw_w758 (lqc lw_w757 (lqc lw_w756 (lqc lw_w755 (lqc lw_w754 (lqc lw_w753 (lqc lw_w752 (lqc lw_w751 (lqc lw_w750 (lqc lw_w749 (lqc lw_w748 (lqc lw_w747 (lqc lw_w777 (lqc lw_w776 (lqc lw_w775 (lqc lw_w96 (lqc lw_w95 (lqc lw_w94 lqn))))))))))))))))))))))))
set_option maxRecDepth 20000 in
theorem lw_l_wsX12_pass_r2 : ∀ w ∈ wsX12_pass_r2, w ∈ lw_tbl := (lqc lw_w774 (lqc lw_w846 (lqc lw_w845 (lqc lw_w844 (lqc lw_w843 (lqc lw_w854 (lqc lw_w853 (lqc lw_w852 (lqc lw_w851 (lqc lw_w842 (lqc lw_w841 (lqc lw_w840 (lqc lw_w839 lqn)))))))))))))
set_option maxRecDepth 20000 in
theorem lw_l_wsX12_pass : ∀ w ∈ wsX12_pass, w ∈ lw_tbl := (lqc lw_w855 (lqa (lqa lw_l_wsX12_pass_r1 lw_l_wsX12_pass_r2) lw_u_wsX120))
set_option maxRecDepth 20000 in
theorem lw_l_wsX12_setNeed_r1 : ∀ w ∈ wsX12_setNeed_r1, w ∈ lw_tbl := (lqc lw_w859 (lqc lw_w858 (lqc lw_w767 (lqc lw_w857 (lqc lw_w769 (lqc lw_w768 (lqc lw_w766 (lqc lw_w759 (lqc lw_w758 (lqc lw_w757 (lqc lw_w756 (lqc lw_w755 (lqc lw_w754 (lqc lw_w753 (lqc lw_w752 (lqc lw_w751 (lqc lw_w783 (lqc lw_w782 (lqc lw_w781 (lqc lw_w780 (lqc lw_w770 (lqc lw_w750 (lqc lw_w749 (lqc lw_w748 lqn))))))))))))))))))))))))
set_option maxRecDepth 20000 in
theorem lw_l_wsX12_setNeed_r2 : ∀ w ∈ wsX12_setNeed_r2, w ∈ lw_tbl := (lqc lw_w747 (lqc lw_w777 (lqc lw_w776 (lqc lw_w775 (lqc lw_w96 (lqc lw_w95 (lqc lw_w94 (lqc lw_w774 lqn))))))))
set_option maxRecDepth 20000 in
theorem lw_l_wsX12_setNeed : ∀ w ∈ wsX12_setNeed, w ∈ lw_tbl := (lqc lw_w856 (lqa (lqa lw_l_wsX12_setNeed_r1 lw_l_wsX12_setNeed_r2) lw_u_wsX120))
set_option maxRecDepth 20000 in
theorem lw_l_wsX12_setShift_r1 : ∀ w ∈ wsX12_setShift_r1, w ∈ lw_tbl := (lqc lw_w769 (lqc lw_w768 (lqc lw_w767 (lqc lw_w766 (lqc lw_w759 (lqc lw_w758 (lqc lw_w757 (lqc lw_w756 (lqc lw_w755 (lqc lw_w754 (lqc lw_w753 (lqc lw_w752 (lqc lw_w751 (lqc lw_w783 (lqc lw_w782 (lqc lw_w781 (lqc lw_w780 (lqc lw_w770 (lqc lw_w750 (lqc lw_w749 (lqc lw_w748 (lqc lw_w747 (lqc lw_w777 (lqc lw_w776 lqn))))))))))))))))))))))))
set_option maxRecDepth 20000 in
theorem lw_l_wsX12_setShift_r2 : ∀ w ∈ wsX12_setShift_r2, w ∈ lw_tbl := (lqc lw_w775 (lqc lw_w96 (lqc lw_w95 (lqc lw_w94 (lqc lw_w774 lqn)))))
set_option maxRecDepth 20000 in
theorem lw_l_wsX12_setShift : ∀ w ∈ wsX12_setShift, w ∈ lw_tbl := (lqc lw_w860 (lqa (lqa lw_l_wsX12_setShift_r1 lw_l_wsX12_setShift_r2) lw_u_wsX120))
set_option maxRecDepth 20000 in
theorem lw_l_wsX12_setLoad_r1 : ∀ w ∈ wsX12_setLoad_r1, w ∈ lw_tbl := (lqc lw_w770 (lqc lw_w859 (lqc lw_w858 (lqc lw_w767 (lqc lw_w857 (lqc lw_w769 (lqc lw_w768 (lqc lw_w766 (lqc lw_w759 (lqc lw_w758 (lqc lw_w757 (lqc lw_w756 (lqc lw_w755 (lqc lw_w754 (lqc lw_w753 (lqc lw_w752 (lqc lw_w751 (lqc lw_w750 (lqc lw_w749 (lqc lw_w748 (lqc lw_w747 (lqc lw_w777 (lqc lw_w776 (lqc lw_w775 lqn))))))))))))))))))))))))
set_option maxRecDepth 20000 in
theorem lw_l_wsX12_setLoad_r2 : ∀ w ∈ wsX12_setLoad_r2, w ∈ lw_tbl := (lqc lw_w96 (lqc lw_w95 (lqc lw_w94 (lqc lw_w774 lqn))))
set_option maxRecDepth 20000 in
theorem lw_l_wsX12_setLoad : ∀ w ∈ wsX12_setLoad, w ∈ lw_tbl := (lqc lw_w861 (lqa (lqa lw_l_wsX12_setLoad_r1 lw_l_wsX12_setLoad_r2) lw_u_wsX120))
set_option maxRecDepth 20000 in
theorem lw_l_wsX12_setGenerator_r1 : ∀ w ∈ wsX12_setGenerator_r1, w ∈ lw_tbl := (lqc lw_w770 (lqc lw_w769 (lqc lw_w768 (lqc lw_w767 (lqc lw_w766 (lqc lw_w759 (lqc lw_w758 (lqc lw_w757 (lqc lw_w756 (lqc lw_w755 (lqc lw_w754 (lqc lw_w753 (lqc lw_w752 (lqc lw_w751 (lqc lw_w783 (lqc lw_w782 (lqc lw_w781 (lqc lw_w780 (lqc lw_w750 (lqc lw_w749 (lqc lw_w748 (lqc lw_w747 (lqc lw_w777 (lqc lw_w776 lqn))))))))))))))))))))))))
set_option maxRecDepth 20000 in
theorem lw_l_wsX12_setGenerator_r2 : ∀ w ∈ wsX12_setGenerator_r2, w ∈ lw_tbl := (lqc lw_w775 (lqc lw_w96 (lqc lw_w95 (lqc lw_w94 (lqc lw_w774 lqn)))))
set_option maxRecDepth 20000 in
theorem lw_l_wsX12_setGenerator : ∀ w ∈ wsX12_setGenerator, w ∈ lw_tbl := (lqc lw_w862 (lqa (lqa lw_l_wsX12_setGenerator_r1 lw_l_wsX12_setGenerator_r2) lw_u_wsX120))
set_option maxRecDepth 20000 in
theorem lw_l_wsX12_moveAll_r1 : ∀ w ∈ wsX12_moveAll_r1, w ∈ lw_tbl := (lqc lw_w774 (lqc lw_w864 (lqc lw_w770 (lqc lw_w759 (lqc lw_w758 (lqc lw_w757 (lqc lw_w767 (lqc lw_w756 (lqc lw_w755 (lqc lw_w754 (lqc lw_w753 (lqc lw_w752 (lqc lw_w751 (lqc lw_w750 (lqc lw_w749 (lqc lw_w748 (lqc lw_w747 (lqc lw_w777 (lqc lw_w776 (lqc lw_w775 (lqc lw_w96 (lqc lw_w95 (lqc lw_w94 (lqc lw_w806 lqn))))))))))))))))))))))))
set_option maxRecDepth 20000 in
theorem lw_l_wsX12_moveAll_r2 : ∀ w ∈ wsX12_moveAll_r2, w ∈ lw_tbl := (lqc lw_w805 (lqc lw_w804 (lqc lw_w803 (lqc lw_w769 (lqc lw_w768 (lqc lw_w766 lqn))))))
set_option maxRecDepth 20000 in
theorem lw_l_wsX12_moveAll : ∀ w ∈ wsX12_moveAll, w ∈ lw_tbl := (lqc lw_w863 (lqa (lqa lw_l_wsX12_moveAll_r1 lw_l_wsX12_moveAll_r2) lw_u_wsX120))
set_option maxRecDepth 20000 in
theorem lw_l_wsX12_setPrice_r1 : ∀ w ∈ wsX12_setPrice_r1, w ∈ lw_tbl := (lqc lw_w868 (lqc lw_w867 (lqc lw_w767 (lqc lw_w866 (lqc lw_w769 (lqc lw_w768 (lqc lw_w766 (lqc lw_w759 (lqc lw_w758 (lqc lw_w757 (lqc lw_w756 (lqc lw_w755 (lqc lw_w754 (lqc lw_w753 (lqc lw_w752 (lqc lw_w751 (lqc lw_w783 (lqc lw_w782 (lqc lw_w781 (lqc lw_w780 (lqc lw_w770 (lqc lw_w750 (lqc lw_w749 (lqc lw_w748 lqn))))))))))))))))))))))))
set_option maxRecDepth 20000 in
theorem lw_l_wsX12_setPrice_r2 : ∀ w ∈ wsX12_setPrice_r2, w ∈ lw_tbl := (lqc lw_w747 (lqc lw_w777 (lqc lw_w776 (lqc lw_w775 (lqc lw_w96 (lqc lw_w95 (lqc lw_w94 (lqc lw_w774 lqn))))))))
set_option maxRecDepth 20000 in
theorem lw_l_wsX12_setPrice : ∀ w ∈ wsX12_setPrice, w ∈ lw_tbl := (lqc lw_w865 (lqa (lqa lw_l_wsX12_setPrice_r1 lw_l_wsX12_setPrice_r2) lw_u_wsX120))
set_option maxRecDepth 20000 in
theorem lw_l_wsX12_ticket_r1 : ∀ w ∈ wsX12_ticket_r1, w ∈ lw_tbl := (lqc lw_w770 (lqc lw_w818 (lqc lw_w817 (lqc lw_w767 (lqc lw_w816 (lqc lw_w769 (lqc lw_w768 (lqc lw_w766 (lqc lw_w868 (lqc lw_w867 (lqc lw_w866 (lqc lw_w759 (lqc lw_w758 (lqc lw_w757 (lqc lw_w756 (lqc lw_w755 (lqc lw_w754 (lqc lw_w753 (lqc lw_w752 (lqc lw_w751 (lqc lw_w750 (lqc lw_w749 (lqc lw_w748 (lqc lw_w747 lqn))))))))))))))))))))))))
set_option maxRecDepth 20000 in
theorem lw_l_wsX12_ticket_r2 : ∀ w ∈ wsX12_ticket_r2, w ∈ lw_tbl := (lqc lw_w777 (lqc lw_w776 (lqc lw_w775 (lqc lw_w96 (lqc lw_w95 (lqc lw_w94 (lqc lw_w774 (lqc lw_w873 (lqc lw_w872 (lqc lw_w871 (lqc lw_w870 lqn)))))))))))
set_option maxRecDepth 20000 in
theorem lw_l_wsX12_ticket : ∀ w ∈ wsX12_ticket, w ∈ lw_tbl := (lqc lw_w869 (lqa (lqa lw_l_wsX12_ticket_r1 lw_l_wsX12_ticket_r2) lw_u_wsX120))
set_option maxRecDepth 20000 in
theorem lw_l_wsX12_refund_r1 : ∀ w ∈ wsX12_refund_r1, w ∈ lw_tbl := (lqc lw_w770 (lqc lw_w818 (lqc lw_w817 (lqc lw_w767 (lqc lw_w816 (lqc lw_w769 (lqc lw_w768 (lqc lw_w766 (lqc lw_w868 (lqc lw_w867 (lqc lw_w866 (lqc lw_w759 (lqc lw_w758 (lqc lw_w757 (lqc lw_w756 (lqc lw_w755 (lqc lw_w754 (lqc lw_w753 (lqc lw_w752 (lqc lw_w751 (lqc lw_w750 (lqc lw_w749 (lqc lw_w748 (lqc lw_w747 lqn))))))))))))))))))))))))
set_option maxRecDepth 20000 in
theorem lw_l_wsX12_refund_r2 : ∀ w ∈ wsX12_refund_r2, w ∈ lw_tbl := (lqc lw_w777 (lqc lw_w776 (lqc lw_w775 (lqc lw_w96 (lqc lw_w95 (lqc lw_w94 (lqc lw_w774 (lqc lw_w873 (lqc lw_w872 (lqc lw_w871 (lqc lw_w870 lqn)))))))))))
set_option maxRecDepth 20000 in
theorem lw_l_wsX12_refund : ∀ w ∈ wsX12_refund, w ∈ lw_tbl := (lqc lw_w874 (lqa (lqa lw_l_wsX12_refund_r1 lw_l_wsX12_refund_r2) lw_u_wsX120))
set_option maxRecDepth 20000 in
theorem lw_l_wsX12_resell_r1 : ∀ w ∈ wsX12_resell_r1, w ∈ lw_tbl := (lqc lw_w770 (lqc lw_w818 (lqc lw_w817 (lqc lw_w767 (lqc lw_w816 (lqc lw_w769 (lqc lw_w768 (lqc lw_w766 (lqc lw_w868 (lqc lw_w867 (lqc lw_w866 (lqc lw_w759 (lqc lw_w758 (lqc lw_w757 (lqc lw_w756 (lqc lw_w755 (lqc lw_w754 (lqc lw_w753 (lqc lw_w752 (lqc lw_w751 (lqc lw_w750 (lqc lw_w749 (lqc lw_w748 (lqc lw_w747 lqn))))))))))))))))))))))))
set_option maxRecDepth 20000 in
theorem lw_l_wsX12_resell_r2 : ∀ w ∈ wsX12_resell_r2, w ∈ lw_tbl := (lqc lw_w777 (lqc lw_w776 (lqc lw_w775 (lqc lw_w96 (lqc lw_w95 (lqc lw_w94 (lqc lw_w774 (lqc lw_w873 (lqc lw_w872 (lqc lw_w871 (lqc lw_w870 lqn)))))))))))
set_option maxRecDepth 20000 in
theorem lw_l_wsX12_resell : ∀ w ∈ wsX12_resell, w ∈ lw_tbl := (lqc lw_w875 (lqa (lqa lw_l_wsX12_resell_r1 lw_l_wsX12_resell_r2) lw_u_wsX120))
set_option maxRecDepth 20000 in
theorem lw_l_wsX12_payBands_r1 : ∀ w ∈ wsX12_payBands_r1, w ∈ lw_tbl := (lqc lw_w755 (lqc lw_w770 (lqc lw_w750 (lqc lw_w749 (lqc lw_w748 (lqc lw_w767 (lqc lw_w747 (lqc lw_w777 (lqc lw_w776 (lqc lw_w775 (lqc lw_w96 (lqc lw_w95 (lqc lw_w94 (lqc lw_w774 (lqc lw_w886 (lqc lw_w885 (lqc lw_w884 (lqc lw_w883 (lqc lw_w882 (lqc lw_w881 (lqc lw_w880 (lqc lw_w879 (lqc lw_w878 (lqc lw_w877 lqn))))))))))))))))))))))))
set_option maxRecDepth 20000 in
theorem lw_l_wsX12_payBands_r2 : ∀ w ∈ wsX12_payBands_r2, w ∈ lw_tbl := (lqc lw_w802 (lqc lw_w801 (lqc lw_w800 (lqc lw_w799 (lqc lw_w769 (lqc lw_w768 (lqc lw_w766 (lqc lw_w797 (lqc lw_w796 (lqc lw_w795 (lqc lw_w794 (lqc lw_w898 (lqc lw_w897 (lqc lw_w896 (lqc lw_w895 (lqc lw_w894 (lqc lw_w893 (lqc lw_w892 (lqc lw_w891 (lqc lw_w890 (lqc lw_w889 (lqc lw_w888 (lqc lw_w887 (lqc lw_w814 lqn))))))))))))))))))))))))
set_option maxRecDepth 20000 in
theorem lw_l_wsX12_payBands_r3 : ∀ w ∈ wsX12_payBands_r3, w ∈ lw_tbl := (lqc lw_w813 (lqc lw_w812 (lqc lw_w811 (lqc lw_w810 (lqc lw_w809 (lqc lw_w808 (lqc lw_w807 (lqc lw_w905 (lqc lw_w904 (lqc lw_w903 (lqc lw_w902 (lqc lw_w901 (lqc lw_w900 (lqc lw_w899 (lqc lw_w873 (lqc lw_w872 (lqc lw_w871 (lqc lw_w870 lqn))))))))))))))))))
set_option maxRecDepth 20000 in
theorem lw_l_wsX12_payBands : ∀ w ∈ wsX12_payBands, w ∈ lw_tbl := (lqc lw_w876 (lqa (lqa lw_l_wsX12_payBands_r1 (lqa lw_l_wsX12_payBands_r2 lw_l_wsX12_payBands_r3)) lw_u_wsX120))
set_option maxRecDepth 20000 in
theorem lw_l_wsX12_lose_r1 : ∀ w ∈ wsX12_lose_r1, w ∈ lw_tbl := (lqc lw_w770 (lqc lw_w786 (lqc lw_w785 (lqc lw_w767 (lqc lw_w784 (lqc lw_w769 (lqc lw_w768 (lqc lw_w766 (lqc lw_w759 (lqc lw_w758 (lqc lw_w757 (lqc lw_w756 (lqc lw_w755 (lqc lw_w754 (lqc lw_w753 (lqc lw_w752 (lqc lw_w751 (lqc lw_w750 (lqc lw_w749 (lqc lw_w748 (lqc lw_w747 (lqc lw_w777 (lqc lw_w776 (lqc lw_w775 lqn))))))))))))))))))))))))
set_option maxRecDepth 20000 in
theorem lw_l_wsX12_lose_r2 : ∀ w ∈ wsX12_lose_r2, w ∈ lw_tbl := (lqc lw_w96 (lqc lw_w95 (lqc lw_w94 (lqc lw_w774 (lqc lw_w910 (lqc lw_w909 (lqc lw_w908 (lqc lw_w907 lqn))))))))
set_option maxRecDepth 20000 in
theorem lw_l_wsX12_lose : ∀ w ∈ wsX12_lose, w ∈ lw_tbl := (lqc lw_w906 (lqa (lqa lw_l_wsX12_lose_r1 lw_l_wsX12_lose_r2) lw_u_wsX120))
set_option maxRecDepth 20000 in
theorem lw_l_wsX12_find_r1 : ∀ w ∈ wsX12_find_r1, w ∈ lw_tbl := (lqc lw_w770 (lqc lw_w786 (lqc lw_w785 (lqc lw_w767 (lqc lw_w784 (lqc lw_w769 (lqc lw_w768 (lqc lw_w766 (lqc lw_w759 (lqc lw_w758 (lqc lw_w757 (lqc lw_w756 (lqc lw_w755 (lqc lw_w754 (lqc lw_w753 (lqc lw_w752 (lqc lw_w751 (lqc lw_w750 (lqc lw_w749 (lqc lw_w748 (lqc lw_w747 (lqc lw_w777 (lqc lw_w776 (lqc lw_w775 lqn))))))))))))))))))))))))
set_option maxRecDepth 20000 in
theorem lw_l_wsX12_find_r2 : ∀ w ∈ wsX12_find_r2, w ∈ lw_tbl := (lqc lw_w96 (lqc lw_w95 (lqc lw_w94 (lqc lw_w774 lqn))))
set_option maxRecDepth 20000 in
theorem lw_l_wsX12_find : ∀ w ∈ wsX12_find, w ∈ lw_tbl := (lqc lw_w911 (lqa (lqa lw_l_wsX12_find_r1 lw_l_wsX12_find_r2) lw_u_wsX120))
set_option maxRecDepth 20000 in
theorem lw_l_wsX12_undo : ∀ w ∈ wsX12_undo, w ∈ lw_tbl := (lqc lw_w912 (lqa (lqc lw_w777 (lqc lw_w776 (lqc lw_w770 (lqc lw_w775 (lqc lw_w96 (lqc lw_w95 (lqc lw_w94 (lqc lw_w774 (lqc lw_w759 (lqc lw_w758 (lqc lw_w757 (lqc lw_w767 (lqc lw_w756 (lqc lw_w755 (lqc lw_w754 (lqc lw_w753 (lqc lw_w752 (lqc lw_w751 lqn)))))))))))))))))) lw_u_wsX120))
set_option maxRecDepth 20000 in
theorem lw_l_wsX12_dateAt : ∀ w ∈ wsX12_dateAt, w ∈ lw_tbl := (lqc lw_w913 (lqa (lqc lw_w770 (lqc lw_w769 (lqc lw_w768 (lqc lw_w767 (lqc lw_w766 (lqc lw_w759 (lqc lw_w758 (lqc lw_w757 (lqc lw_w756 (lqc lw_w755 (lqc lw_w754 (lqc lw_w753 (lqc lw_w752 (lqc lw_w751 (lqc lw_w765 (lqc lw_w764 (lqc lw_w763 (lqc lw_w762 (lqc lw_w761 (lqc lw_w760 (lqc lw_w773 (lqc lw_w772 (lqc lw_w771 lqn))))))))))))))))))))))) lw_u_wsX120))
set_option maxRecDepth 20000 in
theorem lw_l_wsX12_walk_r1 : ∀ w ∈ wsX12_walk_r1, w ∈ lw_tbl := (lqc lw_w786 (lqc lw_w785 (lqc lw_w767 (lqc lw_w784 (lqc lw_w769 (lqc lw_w768 (lqc lw_w766 (lqc lw_w759 (lqc lw_w758 (lqc lw_w757 (lqc lw_w756 (lqc lw_w755 (lqc lw_w754 (lqc lw_w753 (lqc lw_w752 (lqc lw_w751 (lqc lw_w792 (lqc lw_w791 (lqc lw_w790 (lqc lw_w789 (lqc lw_w770 (lqc lw_w788 (lqc lw_w39 (lqc lw_w38 lqn))))))))))))))))))))))))
set_option maxRecDepth 20000 in
theorem lw_l_wsX12_walk_r2 : ∀ w ∈ wsX12_walk_r2, w ∈ lw_tbl := (lqc lw_w37 lqn)
set_option maxRecDepth 20000 in
theorem lw_l_wsX12_walk : ∀ w ∈ wsX12_walk, w ∈ lw_tbl := (lqc lw_w914 (lqa (lqa lw_l_wsX12_walk_r1 lw_l_wsX12_walk_r2) lw_u_wsX120))
set_option maxRecDepth 20000 in
theorem lw_l_wsX12_actAt_r1 : ∀ w ∈ wsX12_actAt_r1, w ∈ lw_tbl := (lqc lw_w802 (lqc lw_w801 (lqc lw_w800 (lqc lw_w767 (lqc lw_w799 (lqc lw_w769 (lqc lw_w768 (lqc lw_w766 (lqc lw_w797 (lqc lw_w796 (lqc lw_w795 (lqc lw_w794 (lqc lw_w770 (lqc lw_w759 (lqc lw_w758 (lqc lw_w757 (lqc lw_w756 (lqc lw_w755 (lqc lw_w754 (lqc lw_w753 (lqc lw_w752 (lqc lw_w751 (lqc lw_w814 (lqc lw_w813 lqn))))))))))))))))))))))))
set_option maxRecDepth 20000 in
theorem lw_l_wsX12_actAt_r2 : ∀ w ∈ wsX12_actAt_r2, w ∈ lw_tbl := (lqc lw_w812 (lqc lw_w811 (lqc lw_w810 (lqc lw_w809 (lqc lw_w808 (lqc lw_w807 (lqc lw_w886 (lqc lw_w885 (lqc lw_w884 (lqc lw_w883 (lqc lw_w882 (lqc lw_w881 (lqc lw_w880 (lqc lw_w879 (lqc lw_w878 (lqc lw_w877 (lqc lw_w898 (lqc lw_w897 (lqc lw_w896 (lqc lw_w895 (lqc lw_w894 (lqc lw_w893 (lqc lw_w892 (lqc lw_w891 lqn))))))))))))))))))))))))
set_option maxRecDepth 20000 in
theorem lw_l_wsX12_actAt_r3 : ∀ w ∈ wsX12_actAt_r3, w ∈ lw_tbl := (lqc lw_w890 (lqc lw_w889 (lqc lw_w888 (lqc lw_w887 lqn))))
set_option maxRecDepth 20000 in
theorem lw_l_wsX12_actAt : ∀ w ∈ wsX12_actAt, w ∈ lw_tbl := (lqc lw_w915 (lqa (lqa lw_l_wsX12_actAt_r1 (lqa lw_l_wsX12_actAt_r2 lw_l_wsX12_actAt_r3)) lw_u_wsX120))
set_option maxRecDepth 20000 in
theorem lw_l_wsX12_acts : ∀ w ∈ wsX12_acts, w ∈ lw_tbl := (lqc lw_w916 (lqa (lqc lw_w755 (lqc lw_w920 (lqc lw_w919 (lqc lw_w918 (lqc lw_w767 (lqc lw_w917 (lqc lw_w797 (lqc lw_w796 (lqc lw_w795 (lqc lw_w794 (lqc lw_w770 lqn))))))))))) lw_u_wsX120))
set_option maxRecDepth 20000 in
theorem lw_l_wsX12_firstIn_r1 : ∀ w ∈ wsX12_firstIn_r1, w ∈ lw_tbl := (lqc lw_w786 (lqc lw_w785 (lqc lw_w767 (lqc lw_w784 (lqc lw_w769 (lqc lw_w768 (lqc lw_w766 (lqc lw_w759 (lqc lw_w758 (lqc lw_w757 (lqc lw_w756 (lqc lw_w755 (lqc lw_w754 (lqc lw_w753 (lqc lw_w752 (lqc lw_w751 (lqc lw_w802 (lqc lw_w801 (lqc lw_w800 (lqc lw_w799 (lqc lw_w797 (lqc lw_w796 (lqc lw_w795 (lqc lw_w794 lqn))))))))))))))))))))))))
set_option maxRecDepth 20000 in
theorem lw_l_wsX12_firstIn_r2 : ∀ w ∈ wsX12_firstIn_r2, w ∈ lw_tbl := (lqc lw_w770 lqn)
set_option maxRecDepth 20000 in
theorem lw_l_wsX12_firstIn : ∀ w ∈ wsX12_firstIn, w ∈ lw_tbl := (lqc lw_w921 (lqa (lqa lw_l_wsX12_firstIn_r1 lw_l_wsX12_firstIn_r2) lw_u_wsX120))
set_option maxRecDepth 20000 in
theorem lw_l_wsX12_clash_r1 : ∀ w ∈ wsX12_clash_r1, w ∈ lw_tbl := (lqc lw_w802 (lqc lw_w801 (lqc lw_w800 (lqc lw_w767 (lqc lw_w799 (lqc lw_w769 (lqc lw_w768 (lqc lw_w766 (lqc lw_w797 (lqc lw_w796 (lqc lw_w795 (lqc lw_w794 (lqc lw_w770 (lqc lw_w759 (lqc lw_w758 (lqc lw_w757 (lqc lw_w756 (lqc lw_w755 (lqc lw_w754 (lqc lw_w753 (lqc lw_w752 (lqc lw_w751 (lqc lw_w898 (lqc lw_w897 lqn))))))))))))))))))))))))
set_option maxRecDepth 20000 in
theorem lw_l_wsX12_clash_r2 : ∀ w ∈ wsX12_clash_r2, w ∈ lw_tbl := (lqc lw_w896 (lqc lw_w895 (lqc lw_w894 (lqc lw_w893 (lqc lw_w892 (lqc lw_w891 (lqc lw_w890 (lqc lw_w889 (lqc lw_w888 (lqc lw_w887 lqn))))))))))
set_option maxRecDepth 20000 in
theorem lw_l_wsX12_clash : ∀ w ∈ wsX12_clash, w ∈ lw_tbl := (lqc lw_w922 (lqa (lqa lw_l_wsX12_clash_r1 lw_l_wsX12_clash_r2) lw_u_wsX120))
set_option maxRecDepth 20000 in
theorem lw_l_wsX12_clashes_r1 : ∀ w ∈ wsX12_clashes_r1, w ∈ lw_tbl := (lqc lw_w755 (lqc lw_w802 (lqc lw_w801 (lqc lw_w800 (lqc lw_w767 (lqc lw_w799 (lqc lw_w769 (lqc lw_w768 (lqc lw_w766 (lqc lw_w797 (lqc lw_w796 (lqc lw_w795 (lqc lw_w794 (lqc lw_w770 (lqc lw_w898 (lqc lw_w897 (lqc lw_w896 (lqc lw_w895 (lqc lw_w894 (lqc lw_w893 (lqc lw_w892 (lqc lw_w891 (lqc lw_w890 (lqc lw_w889 lqn))))))))))))))))))))))))
set_option maxRecDepth 20000 in
theorem lw_l_wsX12_clashes_r2 : ∀ w ∈ wsX12_clashes_r2, w ∈ lw_tbl := (lqc lw_w888 (lqc lw_w887 lqn))
set_option maxRecDepth 20000 in
theorem lw_l_wsX12_clashes : ∀ w ∈ wsX12_clashes, w ∈ lw_tbl := (lqc lw_w923 (lqa (lqa lw_l_wsX12_clashes_r1 lw_l_wsX12_clashes_r2) lw_u_wsX120))
set_option maxRecDepth 20000 in
theorem lw_l_wsX12_pleased_r1 : ∀ w ∈ wsX12_pleased_r1, w ∈ lw_tbl := (lqc lw_w755 (lqc lw_w882 (lqc lw_w933 (lqc lw_w932 (lqc lw_w931 (lqc lw_w767 (lqc lw_w930 (lqc lw_w929 (lqc lw_w928 (lqc lw_w927 (lqc lw_w926 (lqc lw_w925 (lqc lw_w561 (lqc lw_w38 (lqc lw_w560 (lqc lw_w802 (lqc lw_w801 (lqc lw_w800 (lqc lw_w799 (lqc lw_w769 (lqc lw_w768 (lqc lw_w766 (lqc lw_w797 (lqc lw_w796 lqn))))))))))))))))))))))))
set_option maxRecDepth 20000 in
theorem lw_l_wsX12_pleased_r2 : ∀ w ∈ wsX12_pleased_r2, w ∈ lw_tbl := (lqc lw_w795 (lqc lw_w794 (lqc lw_w770 (lqc lw_w894 (lqc lw_w893 (lqc lw_w892 (lqc lw_w891 (lqc lw_w890 (lqc lw_w889 (lqc lw_w888 (lqc lw_w887 (lqc lw_w814 (lqc lw_w813 (lqc lw_w812 (lqc lw_w811 (lqc lw_w810 (lqc lw_w809 (lqc lw_w808 (lqc lw_w807 (lqc lw_w886 (lqc lw_w885 (lqc lw_w884 (lqc lw_w883 (lqc lw_w881 lqn))))))))))))))))))))))))
set_option maxRecDepth 20000 in
theorem lw_l_wsX12_pleased_r3 : ∀ w ∈ wsX12_pleased_r3, w ∈ lw_tbl := (lqc lw_w880 (lqc lw_w879 (lqc lw_w878 (lqc lw_w877 (lqc lw_w898 (lqc lw_w897 (lqc lw_w896 (lqc lw_w895 lqn))))))))
set_option maxRecDepth 20000 in
theorem lw_l_wsX12_pleased : ∀ w ∈ wsX12_pleased, w ∈ lw_tbl := (lqc lw_w924 (lqa (lqa lw_l_wsX12_pleased_r1 (lqa lw_l_wsX12_pleased_r2 lw_l_wsX12_pleased_r3)) lw_u_wsX120))
set_option maxRecDepth 20000 in
theorem lw_l_wsX12_evening_r1 : ∀ w ∈ wsX12_evening_r1, w ∈ lw_tbl := (lqc lw_w818 (lqc lw_w817 (lqc lw_w767 (lqc lw_w816 (lqc lw_w769 (lqc lw_w768 (lqc lw_w766 (lqc lw_w868 (lqc lw_w867 (lqc lw_w866 (lqc lw_w759 (lqc lw_w758 (lqc lw_w757 (lqc lw_w756 (lqc lw_w755 (lqc lw_w754 (lqc lw_w753 (lqc lw_w752 (lqc lw_w751 (lqc lw_w939 (lqc lw_w938 (lqc lw_w937 (lqc lw_w936 (lqc lw_w935 lqn))))))))))))))))))))))))
set_option maxRecDepth 20000 in
theorem lw_l_wsX12_evening_r2 : ∀ w ∈ wsX12_evening_r2, w ∈ lw_tbl := (lqc lw_w925 (lqc lw_w561 (lqc lw_w38 (lqc lw_w560 (lqc lw_w949 (lqc lw_w948 (lqc lw_w947 (lqc lw_w946 (lqc lw_w945 (lqc lw_w944 (lqc lw_w943 (lqc lw_w942 (lqc lw_w941 (lqc lw_w940 (lqc lw_w802 (lqc lw_w801 (lqc lw_w800 (lqc lw_w799 (lqc lw_w797 (lqc lw_w796 (lqc lw_w795 (lqc lw_w794 (lqc lw_w770 (lqc lw_w810 lqn))))))))))))))))))))))))
set_option maxRecDepth 20000 in
theorem lw_l_wsX12_evening_r3 : ∀ w ∈ wsX12_evening_r3, w ∈ lw_tbl := (lqc lw_w809 (lqc lw_w808 (lqc lw_w807 (lqc lw_w953 (lqc lw_w952 (lqc lw_w951 (lqc lw_w950 (lqc lw_w890 (lqc lw_w889 (lqc lw_w888 (lqc lw_w887 (lqc lw_w792 (lqc lw_w791 (lqc lw_w790 (lqc lw_w789 (lqc lw_w788 (lqc lw_w39 (lqc lw_w37 lqn))))))))))))))))))
set_option maxRecDepth 20000 in
theorem lw_l_wsX12_evening : ∀ w ∈ wsX12_evening, w ∈ lw_tbl := (lqc lw_w934 (lqa (lqa lw_l_wsX12_evening_r1 (lqa lw_l_wsX12_evening_r2 lw_l_wsX12_evening_r3)) lw_u_wsX120))
set_option maxRecDepth 20000 in
theorem lw_l_wsX12_eveningAct_r1 : ∀ w ∈ wsX12_eveningAct_r1, w ∈ lw_tbl := (lqc lw_w949 (lqc lw_w948 (lqc lw_w818 (lqc lw_w817 (lqc lw_w767 (lqc lw_w816 (lqc lw_w769 (lqc lw_w768 (lqc lw_w766 (lqc lw_w868 (lqc lw_w867 (lqc lw_w866 (lqc lw_w759 (lqc lw_w758 (lqc lw_w757 (lqc lw_w756 (lqc lw_w755 (lqc lw_w754 (lqc lw_w753 (lqc lw_w752 (lqc lw_w751 (lqc lw_w939 (lqc lw_w938 (lqc lw_w937 lqn))))))))))))))))))))))))
set_option maxRecDepth 20000 in
theorem lw_l_wsX12_eveningAct_r2 : ∀ w ∈ wsX12_eveningAct_r2, w ∈ lw_tbl := (lqc lw_w936 (lqc lw_w935 (lqc lw_w925 (lqc lw_w561 (lqc lw_w38 (lqc lw_w560 (lqc lw_w947 (lqc lw_w946 (lqc lw_w945 (lqc lw_w944 (lqc lw_w943 (lqc lw_w942 (lqc lw_w941 (lqc lw_w940 (lqc lw_w802 (lqc lw_w801 (lqc lw_w800 (lqc lw_w799 (lqc lw_w797 (lqc lw_w796 (lqc lw_w795 (lqc lw_w794 (lqc lw_w770 (lqc lw_w810 lqn))))))))))))))))))))))))
set_option maxRecDepth 20000 in
theorem lw_l_wsX12_eveningAct_r3 : ∀ w ∈ wsX12_eveningAct_r3, w ∈ lw_tbl := (lqc lw_w809 (lqc lw_w808 (lqc lw_w807 (lqc lw_w953 (lqc lw_w952 (lqc lw_w951 (lqc lw_w950 (lqc lw_w890 (lqc lw_w889 (lqc lw_w888 (lqc lw_w887 (lqc lw_w792 (lqc lw_w791 (lqc lw_w790 (lqc lw_w789 (lqc lw_w788 (lqc lw_w39 (lqc lw_w37 lqn))))))))))))))))))
set_option maxRecDepth 20000 in
theorem lw_l_wsX12_eveningAct : ∀ w ∈ wsX12_eveningAct, w ∈ lw_tbl := (lqc lw_w954 (lqa (lqa lw_l_wsX12_eveningAct_r1 (lqa lw_l_wsX12_eveningAct_r2 lw_l_wsX12_eveningAct_r3)) lw_u_wsX120))
set_option maxRecDepth 20000 in
theorem lw_l_wsX12_price_r1 : ∀ w ∈ wsX12_price_r1, w ∈ lw_tbl := (lqc lw_w935 (lqc lw_w818 (lqc lw_w817 (lqc lw_w767 (lqc lw_w816 (lqc lw_w769 (lqc lw_w768 (lqc lw_w766 (lqc lw_w802 (lqc lw_w801 (lqc lw_w800 (lqc lw_w799 (lqc lw_w797 (lqc lw_w796 (lqc lw_w795 (lqc lw_w794 (lqc lw_w770 (lqc lw_w759 (lqc lw_w758 (lqc lw_w757 (lqc lw_w756 (lqc lw_w755 (lqc lw_w754 (lqc lw_w753 lqn))))))))))))))))))))))))
set_option maxRecDepth 20000 in
theorem lw_l_wsX12_price_r2 : ∀ w ∈ wsX12_price_r2, w ∈ lw_tbl := (lqc lw_w752 (lqc lw_w751 (lqc lw_w947 (lqc lw_w946 (lqc lw_w945 (lqc lw_w944 (lqc lw_w925 (lqc lw_w561 (lqc lw_w38 (lqc lw_w560 (lqc lw_w943 (lqc lw_w942 (lqc lw_w941 (lqc lw_w940 (lqc lw_w810 (lqc lw_w809 (lqc lw_w808 (lqc lw_w807 (lqc lw_w953 (lqc lw_w952 (lqc lw_w951 (lqc lw_w950 (lqc lw_w890 (lqc lw_w889 lqn))))))))))))))))))))))))
set_option maxRecDepth 20000 in
theorem lw_l_wsX12_price_r3 : ∀ w ∈ wsX12_price_r3, w ∈ lw_tbl := (lqc lw_w888 (lqc lw_w887 (lqc lw_w792 (lqc lw_w791 (lqc lw_w790 (lqc lw_w789 (lqc lw_w788 (lqc lw_w39 (lqc lw_w37 lqn)))))))))
set_option maxRecDepth 20000 in
theorem lw_l_wsX12_price : ∀ w ∈ wsX12_price, w ∈ lw_tbl := (lqc lw_w955 (lqa (lqa lw_l_wsX12_price_r1 (lqa lw_l_wsX12_price_r2 lw_l_wsX12_price_r3)) lw_u_wsX120))
set_option maxRecDepth 20000 in
theorem lw_l_wsX12_listeners_r1 : ∀ w ∈ wsX12_listeners_r1, w ∈ lw_tbl := (lqc lw_w786 (lqc lw_w785 (lqc lw_w767 (lqc lw_w784 (lqc lw_w769 (lqc lw_w768 (lqc lw_w766 (lqc lw_w759 (lqc lw_w758 (lqc lw_w757 (lqc lw_w756 (lqc lw_w755 (lqc lw_w754 (lqc lw_w753 (lqc lw_w752 (lqc lw_w751 (lqc lw_w960 (lqc lw_w959 (lqc lw_w958 (lqc lw_w957 (lqc lw_w949 (lqc lw_w948 (lqc lw_w939 (lqc lw_w938 lqn))))))))))))))))))))))))
set_option maxRecDepth 20000 in
theorem lw_l_wsX12_listeners_r2 : ∀ w ∈ wsX12_listeners_r2, w ∈ lw_tbl := (lqc lw_w937 (lqc lw_w936 (lqc lw_w935 (lqc lw_w925 (lqc lw_w561 (lqc lw_w38 (lqc lw_w560 (lqc lw_w947 (lqc lw_w946 (lqc lw_w945 (lqc lw_w944 (lqc lw_w943 (lqc lw_w942 (lqc lw_w941 (lqc lw_w940 (lqc lw_w802 (lqc lw_w801 (lqc lw_w800 (lqc lw_w799 (lqc lw_w797 (lqc lw_w796 (lqc lw_w795 (lqc lw_w794 (lqc lw_w770 lqn))))))))))))))))))))))))
set_option maxRecDepth 20000 in
theorem lw_l_wsX12_listeners_r3 : ∀ w ∈ wsX12_listeners_r3, w ∈ lw_tbl := (lqc lw_w810 (lqc lw_w809 (lqc lw_w808 (lqc lw_w807 (lqc lw_w953 (lqc lw_w952 (lqc lw_w951 (lqc lw_w950 (lqc lw_w890 (lqc lw_w889 (lqc lw_w888 (lqc lw_w887 (lqc lw_w792 (lqc lw_w791 (lqc lw_w790 (lqc lw_w789 (lqc lw_w788 (lqc lw_w39 (lqc lw_w37 lqn)))))))))))))))))))
set_option maxRecDepth 20000 in
theorem lw_l_wsX12_listeners : ∀ w ∈ wsX12_listeners, w ∈ lw_tbl := (lqc lw_w956 (lqa (lqa lw_l_wsX12_listeners_r1 (lqa lw_l_wsX12_listeners_r2 lw_l_wsX12_listeners_r3)) lw_u_wsX120))
set_option maxRecDepth 20000 in
theorem lw_l_wsX12_outBy : ∀ w ∈ wsX12_outBy, w ∈ lw_tbl := (lqc lw_w961 (lqa (lqc lw_w755 (lqc lw_w973 (lqc lw_w972 (lqc lw_w971 (lqc lw_w767 (lqc lw_w970 (lqc lw_w770 (lqc lw_w969 (lqc lw_w968 (lqc lw_w967 (lqc lw_w966 (lqc lw_w965 (lqc lw_w964 (lqc lw_w963 (lqc lw_w962 (lqc lw_w788 (lqc lw_w39 (lqc lw_w38 (lqc lw_w37 lqn))))))))))))))))))) lw_u_wsX120))
set_option maxRecDepth 20000 in
theorem lw_l_wsX12_cut : ∀ w ∈ wsX12_cut, w ∈ lw_tbl := (lqc lw_w974 (lqa (lqc lw_w755 (lqc lw_w973 (lqc lw_w972 (lqc lw_w971 (lqc lw_w767 (lqc lw_w970 (lqc lw_w770 (lqc lw_w969 (lqc lw_w968 (lqc lw_w967 (lqc lw_w966 (lqc lw_w965 (lqc lw_w964 (lqc lw_w963 (lqc lw_w962 (lqc lw_w788 (lqc lw_w39 (lqc lw_w38 (lqc lw_w37 lqn))))))))))))))))))) lw_u_wsX120))
set_option maxRecDepth 20000 in
theorem lw_l_wsX12_line : ∀ w ∈ wsX12_line, w ∈ lw_tbl := (lqc lw_w975 (lqa (lqc lw_w833 (lqc lw_w832 (lqc lw_w767 (lqc lw_w831 (lqc lw_w769 (lqc lw_w768 (lqc lw_w766 (lqc lw_w759 (lqc lw_w758 (lqc lw_w757 (lqc lw_w756 (lqc lw_w755 (lqc lw_w754 (lqc lw_w753 (lqc lw_w752 (lqc lw_w751 (lqc lw_w846 (lqc lw_w845 (lqc lw_w844 (lqc lw_w843 (lqc lw_w770 lqn))))))))))))))))))))) lw_u_wsX120))
set_option maxRecDepth 20000 in
theorem lw_l_wsX12_front_r1 : ∀ w ∈ wsX12_front_r1, w ∈ lw_tbl := (lqc lw_w770 (lqc lw_w833 (lqc lw_w832 (lqc lw_w767 (lqc lw_w831 (lqc lw_w769 (lqc lw_w768 (lqc lw_w766 (lqc lw_w759 (lqc lw_w758 (lqc lw_w757 (lqc lw_w756 (lqc lw_w755 (lqc lw_w754 (lqc lw_w753 (lqc lw_w752 (lqc lw_w751 (lqc lw_w846 (lqc lw_w845 (lqc lw_w844 (lqc lw_w843 (lqc lw_w842 (lqc lw_w841 (lqc lw_w840 lqn))))))))))))))))))))))))
set_option maxRecDepth 20000 in
theorem lw_l_wsX12_front_r2 : ∀ w ∈ wsX12_front_r2, w ∈ lw_tbl := (lqc lw_w839 lqn)
set_option maxRecDepth 20000 in
theorem lw_l_wsX12_front : ∀ w ∈ wsX12_front, w ∈ lw_tbl := (lqc lw_w976 (lqa (lqa lw_l_wsX12_front_r1 lw_l_wsX12_front_r2) lw_u_wsX120))
set_option maxRecDepth 20000 in
theorem lw_l_wsX12_waitOf_r1 : ∀ w ∈ wsX12_waitOf_r1, w ∈ lw_tbl := (lqc lw_w818 (lqc lw_w817 (lqc lw_w767 (lqc lw_w816 (lqc lw_w769 (lqc lw_w768 (lqc lw_w766 (lqc lw_w759 (lqc lw_w758 (lqc lw_w757 (lqc lw_w756 (lqc lw_w755 (lqc lw_w754 (lqc lw_w753 (lqc lw_w752 (lqc lw_w751 (lqc lw_w838 (lqc lw_w837 (lqc lw_w836 (lqc lw_w835 (lqc lw_w830 (lqc lw_w829 (lqc lw_w828 (lqc lw_w827 lqn))))))))))))))))))))))))
set_option maxRecDepth 20000 in
theorem lw_l_wsX12_waitOf_r2 : ∀ w ∈ wsX12_waitOf_r2, w ∈ lw_tbl := (lqc lw_w846 (lqc lw_w845 (lqc lw_w844 (lqc lw_w843 (lqc lw_w770 (lqc lw_w842 (lqc lw_w841 (lqc lw_w840 (lqc lw_w839 (lqc lw_w834 (lqc lw_w849 (lqc lw_w848 (lqc lw_w847 lqn)))))))))))))
set_option maxRecDepth 20000 in
theorem lw_l_wsX12_waitOf : ∀ w ∈ wsX12_waitOf, w ∈ lw_tbl := (lqc lw_w977 (lqa (lqa lw_l_wsX12_waitOf_r1 lw_l_wsX12_waitOf_r2) lw_u_wsX120))
set_option maxRecDepth 20000 in
theorem lw_l_wsX12_waits_r1 : ∀ w ∈ wsX12_waits_r1, w ∈ lw_tbl := (lqc lw_w755 (lqc lw_w991 (lqc lw_w990 (lqc lw_w989 (lqc lw_w767 (lqc lw_w988 (lqc lw_w987 (lqc lw_w770 (lqc lw_w846 (lqc lw_w845 (lqc lw_w844 (lqc lw_w843 (lqc lw_w986 (lqc lw_w985 (lqc lw_w984 (lqc lw_w983 (lqc lw_w842 (lqc lw_w841 (lqc lw_w840 (lqc lw_w839 (lqc lw_w982 (lqc lw_w981 (lqc lw_w980 (lqc lw_w979 lqn))))))))))))))))))))))))
set_option maxRecDepth 20000 in
theorem lw_l_wsX12_waits_r2 : ∀ w ∈ wsX12_waits_r2, w ∈ lw_tbl := (lqc lw_w834 (lqc lw_w849 (lqc lw_w848 (lqc lw_w847 lqn))))
set_option maxRecDepth 20000 in
theorem lw_l_wsX12_waits : ∀ w ∈ wsX12_waits, w ∈ lw_tbl := (lqc lw_w978 (lqa (lqa lw_l_wsX12_waits_r1 lw_l_wsX12_waits_r2) lw_u_wsX120))
set_option maxRecDepth 20000 in
theorem lw_l_wsX12_served : ∀ w ∈ wsX12_served, w ∈ lw_tbl := (lqc lw_w992 (lqa (lqc lw_w755 (lqc lw_w770 lqn)) lw_u_wsX120))
set_option maxRecDepth 20000 in
theorem lw_l_wsX12_helpers_r1 : ∀ w ∈ wsX12_helpers_r1, w ∈ lw_tbl := (lqc lw_w1001 (lqc lw_w859 (lqc lw_w858 (lqc lw_w767 (lqc lw_w857 (lqc lw_w769 (lqc lw_w768 (lqc lw_w766 (lqc lw_w759 (lqc lw_w758 (lqc lw_w757 (lqc lw_w756 (lqc lw_w755 (lqc lw_w754 (lqc lw_w753 (lqc lw_w752 (lqc lw_w751 (lqc lw_w1000 (lqc lw_w999 (lqc lw_w998 (lqc lw_w997 (lqc lw_w996 (lqc lw_w995 (lqc lw_w994 lqn))))))))))))))))))))))))
set_option maxRecDepth 20000 in
theorem lw_l_wsX12_helpers_r2 : ∀ w ∈ wsX12_helpers_r2, w ∈ lw_tbl := (lqc lw_w1002 (lqc lw_w770 (lqc lw_w788 (lqc lw_w39 (lqc lw_w38 (lqc lw_w37 lqn))))))
set_option maxRecDepth 20000 in
theorem lw_l_wsX12_helpers : ∀ w ∈ wsX12_helpers, w ∈ lw_tbl := (lqc lw_w993 (lqa (lqa lw_l_wsX12_helpers_r1 lw_l_wsX12_helpers_r2) lw_u_wsX120))
set_option maxRecDepth 20000 in
theorem lw_l_wsX12_proof : ∀ w ∈ wsX12_proof, w ∈ lw_tbl := (lqc lw_w1003 (lqa (lqc lw_w755 (lqc lw_w1011 (lqc lw_w1010 (lqc lw_w1009 (lqc lw_w767 (lqc lw_w1008 (lqc lw_w882 (lqc lw_w881 (lqc lw_w1007 (lqc lw_w1006 (lqc lw_w1005 (lqc lw_w1004 (lqc lw_w770 lqn))))))))))))) lw_u_wsX120))
set_option maxRecDepth 20000 in
theorem lw_l_wsX12_cost : ∀ w ∈ wsX12_cost, w ∈ lw_tbl := (lqc lw_w1012 (lqa (lqc lw_w755 (lqc lw_w1029 (lqc lw_w1028 (lqc lw_w1027 (lqc lw_w767 (lqc lw_w1026 (lqc lw_w1025 (lqc lw_w1024 (lqc lw_w1023 (lqc lw_w1022 (lqc lw_w1021 (lqc lw_w1020 (lqc lw_w1019 (lqc lw_w1018 (lqc lw_w1017 (lqc lw_w1016 (lqc lw_w1015 (lqc lw_w1014 (lqc lw_w1013 (lqc lw_w770 lqn)))))))))))))))))))) lw_u_wsX120))
set_option maxRecDepth 20000 in
theorem lw_l_wsX12_isOn_r1 : ∀ w ∈ wsX12_isOn_r1, w ∈ lw_tbl := (lqc lw_w859 (lqc lw_w858 (lqc lw_w767 (lqc lw_w857 (lqc lw_w769 (lqc lw_w768 (lqc lw_w766 (lqc lw_w759 (lqc lw_w758 (lqc lw_w757 (lqc lw_w756 (lqc lw_w755 (lqc lw_w754 (lqc lw_w753 (lqc lw_w752 (lqc lw_w751 (lqc lw_w1029 (lqc lw_w1028 (lqc lw_w1027 (lqc lw_w1026 (lqc lw_w1025 (lqc lw_w1024 (lqc lw_w1023 (lqc lw_w1022 lqn))))))))))))))))))))))))
set_option maxRecDepth 20000 in
theorem lw_l_wsX12_isOn_r2 : ∀ w ∈ wsX12_isOn_r2, w ∈ lw_tbl := (lqc lw_w1021 (lqc lw_w1020 (lqc lw_w1019 (lqc lw_w1018 (lqc lw_w1017 (lqc lw_w1016 (lqc lw_w1015 (lqc lw_w1014 (lqc lw_w1013 (lqc lw_w770 lqn))))))))))
set_option maxRecDepth 20000 in
theorem lw_l_wsX12_isOn : ∀ w ∈ wsX12_isOn, w ∈ lw_tbl := (lqc lw_w1030 (lqa (lqa lw_l_wsX12_isOn_r1 lw_l_wsX12_isOn_r2) lw_u_wsX120))
set_option maxRecDepth 20000 in
theorem lw_l_wsX12_rain_r1 : ∀ w ∈ wsX12_rain_r1, w ∈ lw_tbl := (lqc lw_w1036 (lqc lw_w1035 (lqc lw_w1034 (lqc lw_w864 (lqc lw_w775 (lqc lw_w96 (lqc lw_w95 (lqc lw_w94 (lqc lw_w774 (lqc lw_w769 (lqc lw_w768 (lqc lw_w767 (lqc lw_w766 (lqc lw_w759 (lqc lw_w758 (lqc lw_w757 (lqc lw_w756 (lqc lw_w755 (lqc lw_w754 (lqc lw_w753 (lqc lw_w752 (lqc lw_w751 (lqc lw_w1033 (lqc lw_w1032 lqn))))))))))))))))))))))))
set_option maxRecDepth 20000 in
theorem lw_l_wsX12_rain_r2 : ∀ w ∈ wsX12_rain_r2, w ∈ lw_tbl := (lqc lw_w1046 (lqc lw_w1045 (lqc lw_w770 (lqc lw_w802 (lqc lw_w801 (lqc lw_w800 (lqc lw_w799 (lqc lw_w797 (lqc lw_w796 (lqc lw_w795 (lqc lw_w794 (lqc lw_w890 (lqc lw_w889 (lqc lw_w888 (lqc lw_w887 (lqc lw_w1044 (lqc lw_w1043 (lqc lw_w1042 (lqc lw_w1041 (lqc lw_w1040 (lqc lw_w1039 (lqc lw_w1038 (lqc lw_w1037 (lqc lw_w894 lqn))))))))))))))))))))))))
set_option maxRecDepth 20000 in
theorem lw_l_wsX12_rain_r3 : ∀ w ∈ wsX12_rain_r3, w ∈ lw_tbl := (lqc lw_w893 (lqc lw_w892 (lqc lw_w891 lqn)))
set_option maxRecDepth 20000 in
theorem lw_l_wsX12_rain : ∀ w ∈ wsX12_rain, w ∈ lw_tbl := (lqc lw_w1031 (lqa (lqa lw_l_wsX12_rain_r1 (lqa lw_l_wsX12_rain_r2 lw_l_wsX12_rain_r3)) lw_u_wsX120))
set_option maxRecDepth 20000 in
theorem lw_l_wsX12_movedTo : ∀ w ∈ wsX12_movedTo, w ∈ lw_tbl := (lqc lw_w1047 (lqa (lqc lw_w774 (lqc lw_w864 (lqc lw_w802 (lqc lw_w801 (lqc lw_w800 (lqc lw_w767 (lqc lw_w799 (lqc lw_w769 (lqc lw_w768 (lqc lw_w766 (lqc lw_w797 (lqc lw_w796 (lqc lw_w795 (lqc lw_w794 (lqc lw_w770 (lqc lw_w759 (lqc lw_w758 (lqc lw_w757 (lqc lw_w756 (lqc lw_w755 (lqc lw_w754 (lqc lw_w753 (lqc lw_w752 (lqc lw_w751 lqn)))))))))))))))))))))))) lw_u_wsX120))
set_option maxRecDepth 20000 in
theorem lw_l_wsX12_ticketAt : ∀ w ∈ wsX12_ticketAt, w ∈ lw_tbl := (lqc lw_w1048 (lqa (lqc lw_w770 (lqc lw_w818 (lqc lw_w817 (lqc lw_w767 (lqc lw_w816 (lqc lw_w769 (lqc lw_w768 (lqc lw_w766 (lqc lw_w868 (lqc lw_w867 (lqc lw_w866 (lqc lw_w759 (lqc lw_w758 (lqc lw_w757 (lqc lw_w756 (lqc lw_w755 (lqc lw_w754 (lqc lw_w753 (lqc lw_w752 (lqc lw_w751 lqn)))))))))))))))))))) lw_u_wsX120))
set_option maxRecDepth 20000 in
theorem lw_l_wsX12_balance : ∀ w ∈ wsX12_balance, w ∈ lw_tbl := (lqc lw_w1049 (lqa (lqc lw_w770 (lqc lw_w769 (lqc lw_w768 (lqc lw_w767 (lqc lw_w766 (lqc lw_w759 (lqc lw_w758 (lqc lw_w757 (lqc lw_w756 (lqc lw_w755 (lqc lw_w754 (lqc lw_w753 (lqc lw_w752 (lqc lw_w751 lqn)))))))))))))) lw_u_wsX120))
set_option maxRecDepth 20000 in
theorem lw_l_wsX12_lost : ∀ w ∈ wsX12_lost, w ∈ lw_tbl := (lqc lw_w1050 (lqa (lqc lw_w755 (lqc lw_w910 (lqc lw_w909 (lqc lw_w908 (lqc lw_w767 (lqc lw_w907 (lqc lw_w770 lqn))))))) lw_u_wsX120))
set_option maxRecDepth 20000 in
theorem lw_l_wsX12_meanEvening_r1 : ∀ w ∈ wsX12_meanEvening_r1, w ∈ lw_tbl := (lqc lw_w1052 (lqc lw_w868 (lqc lw_w867 (lqc lw_w767 (lqc lw_w866 (lqc lw_w769 (lqc lw_w768 (lqc lw_w766 (lqc lw_w759 (lqc lw_w758 (lqc lw_w757 (lqc lw_w756 (lqc lw_w755 (lqc lw_w754 (lqc lw_w753 (lqc lw_w752 (lqc lw_w751 (lqc lw_w939 (lqc lw_w938 (lqc lw_w937 (lqc lw_w936 (lqc lw_w935 (lqc lw_w925 (lqc lw_w561 lqn))))))))))))))))))))))))
set_option maxRecDepth 20000 in
theorem lw_l_wsX12_meanEvening_r2 : ∀ w ∈ wsX12_meanEvening_r2, w ∈ lw_tbl := (lqc lw_w38 (lqc lw_w560 (lqc lw_w949 (lqc lw_w948 (lqc lw_w947 (lqc lw_w946 (lqc lw_w945 (lqc lw_w944 (lqc lw_w943 (lqc lw_w942 (lqc lw_w941 (lqc lw_w940 (lqc lw_w802 (lqc lw_w801 (lqc lw_w800 (lqc lw_w799 (lqc lw_w797 (lqc lw_w796 (lqc lw_w795 (lqc lw_w794 (lqc lw_w770 (lqc lw_w810 (lqc lw_w809 (lqc lw_w808 lqn))))))))))))))))))))))))
set_option maxRecDepth 20000 in
theorem lw_l_wsX12_meanEvening_r3 : ∀ w ∈ wsX12_meanEvening_r3, w ∈ lw_tbl := (lqc lw_w807 (lqc lw_w953 (lqc lw_w952 (lqc lw_w951 (lqc lw_w950 (lqc lw_w890 (lqc lw_w889 (lqc lw_w888 (lqc lw_w887 (lqc lw_w792 (lqc lw_w791 (lqc lw_w790 (lqc lw_w789 (lqc lw_w788 (lqc lw_w39 (lqc lw_w37 lqn))))))))))))))))
set_option maxRecDepth 20000 in
theorem lw_l_wsX12_meanEvening : ∀ w ∈ wsX12_meanEvening, w ∈ lw_tbl := (lqc lw_w1051 (lqa (lqa lw_l_wsX12_meanEvening_r1 (lqa lw_l_wsX12_meanEvening_r2 lw_l_wsX12_meanEvening_r3)) lw_u_wsX120))
set_option maxRecDepth 20000 in
theorem lw_l_wsX12_lineupShare_r1 : ∀ w ∈ wsX12_lineupShare_r1, w ∈ lw_tbl := (lqc lw_w755 (lqc lw_w920 (lqc lw_w919 (lqc lw_w918 (lqc lw_w767 (lqc lw_w917 (lqc lw_w797 (lqc lw_w796 (lqc lw_w795 (lqc lw_w794 (lqc lw_w770 (lqc lw_w886 (lqc lw_w885 (lqc lw_w884 (lqc lw_w883 (lqc lw_w882 (lqc lw_w881 (lqc lw_w880 (lqc lw_w879 (lqc lw_w878 (lqc lw_w877 (lqc lw_w802 (lqc lw_w801 (lqc lw_w800 lqn))))))))))))))))))))))))
set_option maxRecDepth 20000 in
theorem lw_l_wsX12_lineupShare_r2 : ∀ w ∈ wsX12_lineupShare_r2, w ∈ lw_tbl := (lqc lw_w799 (lqc lw_w769 (lqc lw_w768 (lqc lw_w766 (lqc lw_w898 (lqc lw_w897 (lqc lw_w896 (lqc lw_w895 (lqc lw_w894 (lqc lw_w893 (lqc lw_w892 (lqc lw_w891 (lqc lw_w890 (lqc lw_w889 (lqc lw_w888 (lqc lw_w887 (lqc lw_w814 (lqc lw_w813 (lqc lw_w812 (lqc lw_w811 (lqc lw_w810 (lqc lw_w809 (lqc lw_w808 (lqc lw_w807 lqn))))))))))))))))))))))))
set_option maxRecDepth 20000 in
theorem lw_l_wsX12_lineupShare_r3 : ∀ w ∈ wsX12_lineupShare_r3, w ∈ lw_tbl := (lqc lw_w905 (lqc lw_w904 (lqc lw_w903 (lqc lw_w902 (lqc lw_w901 (lqc lw_w900 (lqc lw_w899 lqn)))))))
set_option maxRecDepth 20000 in
theorem lw_l_wsX12_lineupShare : ∀ w ∈ wsX12_lineupShare, w ∈ lw_tbl := (lqc lw_w1053 (lqa (lqa lw_l_wsX12_lineupShare_r1 (lqa lw_l_wsX12_lineupShare_r2 lw_l_wsX12_lineupShare_r3)) lw_u_wsX120))
set_option maxRecDepth 20000 in
theorem lw_l_wsX12_checksum : ∀ w ∈ wsX12_checksum, w ∈ lw_tbl := (lqc lw_w1054 (lqa (lqc lw_w755 (lqc lw_w1057 (lqc lw_w1056 (lqc lw_w1055 (lqc lw_w770 (lqc lw_w802 (lqc lw_w801 (lqc lw_w800 (lqc lw_w767 (lqc lw_w799 (lqc lw_w769 (lqc lw_w768 (lqc lw_w766 (lqc lw_w797 (lqc lw_w796 (lqc lw_w795 (lqc lw_w794 lqn))))))))))))))))) lw_u_wsX120))
set_option maxRecDepth 20000 in
theorem lw_l_wsX12_errors_r1 : ∀ w ∈ wsX12_errors_r1, w ∈ lw_tbl := (lqc lw_w755 (lqc lw_w882 (lqc lw_w770 (lqc lw_w886 (lqc lw_w885 (lqc lw_w884 (lqc lw_w767 (lqc lw_w883 (lqc lw_w881 (lqc lw_w880 (lqc lw_w879 (lqc lw_w878 (lqc lw_w877 (lqc lw_w802 (lqc lw_w801 (lqc lw_w800 (lqc lw_w799 (lqc lw_w769 (lqc lw_w768 (lqc lw_w766 (lqc lw_w797 (lqc lw_w796 (lqc lw_w795 (lqc lw_w794 lqn))))))))))))))))))))))))
set_option maxRecDepth 20000 in
theorem lw_l_wsX12_errors_r2 : ∀ w ∈ wsX12_errors_r2, w ∈ lw_tbl := (lqc lw_w898 (lqc lw_w897 (lqc lw_w896 (lqc lw_w895 (lqc lw_w894 (lqc lw_w893 (lqc lw_w892 (lqc lw_w891 (lqc lw_w890 (lqc lw_w889 (lqc lw_w888 (lqc lw_w887 (lqc lw_w814 (lqc lw_w813 (lqc lw_w812 (lqc lw_w811 (lqc lw_w810 (lqc lw_w809 (lqc lw_w808 (lqc lw_w807 (lqc lw_w933 (lqc lw_w932 (lqc lw_w931 (lqc lw_w930 lqn))))))))))))))))))))))))
set_option maxRecDepth 20000 in
theorem lw_l_wsX12_errors_r3 : ∀ w ∈ wsX12_errors_r3, w ∈ lw_tbl := (lqc lw_w929 (lqc lw_w928 (lqc lw_w927 (lqc lw_w926 (lqc lw_w925 (lqc lw_w561 (lqc lw_w38 (lqc lw_w560 (lqc lw_w973 (lqc lw_w972 (lqc lw_w971 (lqc lw_w970 (lqc lw_w969 (lqc lw_w968 (lqc lw_w967 (lqc lw_w966 (lqc lw_w965 (lqc lw_w964 (lqc lw_w963 (lqc lw_w962 (lqc lw_w788 (lqc lw_w39 (lqc lw_w37 (lqc lw_w1059 lqn))))))))))))))))))))))))
set_option maxRecDepth 20000 in
theorem lw_l_wsX12_errors_r4 : ∀ w ∈ wsX12_errors_r4, w ∈ lw_tbl := (lqc lw_w1062 (lqc lw_w1061 (lqc lw_w1060 (lqc lw_w949 (lqc lw_w948 (lqc lw_w939 (lqc lw_w938 (lqc lw_w937 (lqc lw_w936 (lqc lw_w935 (lqc lw_w947 (lqc lw_w946 (lqc lw_w945 (lqc lw_w944 (lqc lw_w943 (lqc lw_w942 (lqc lw_w941 (lqc lw_w940 (lqc lw_w953 (lqc lw_w952 (lqc lw_w951 (lqc lw_w950 (lqc lw_w792 (lqc lw_w791 lqn))))))))))))))))))))))))
set_option maxRecDepth 20000 in
theorem lw_l_wsX12_errors_r5 : ∀ w ∈ wsX12_errors_r5, w ∈ lw_tbl := (lqc lw_w790 (lqc lw_w789 (lqc lw_w991 (lqc lw_w990 (lqc lw_w989 (lqc lw_w988 (lqc lw_w987 (lqc lw_w846 (lqc lw_w845 (lqc lw_w844 (lqc lw_w843 (lqc lw_w986 (lqc lw_w985 (lqc lw_w984 (lqc lw_w983 (lqc lw_w842 (lqc lw_w841 (lqc lw_w840 (lqc lw_w839 (lqc lw_w982 (lqc lw_w981 (lqc lw_w980 (lqc lw_w979 (lqc lw_w834 lqn))))))))))))))))))))))))
set_option maxRecDepth 20000 in
theorem lw_l_wsX12_errors_r6 : ∀ w ∈ wsX12_errors_r6, w ∈ lw_tbl := (lqc lw_w849 (lqc lw_w848 (lqc lw_w847 (lqc lw_w1066 (lqc lw_w1065 (lqc lw_w1064 (lqc lw_w1063 (lqc lw_w1011 (lqc lw_w1010 (lqc lw_w1009 (lqc lw_w1008 (lqc lw_w1007 (lqc lw_w1006 (lqc lw_w1005 (lqc lw_w1004 (lqc lw_w1000 (lqc lw_w999 (lqc lw_w998 (lqc lw_w997 (lqc lw_w1001 (lqc lw_w996 (lqc lw_w995 (lqc lw_w994 (lqc lw_w1002 lqn))))))))))))))))))))))))
set_option maxRecDepth 20000 in
theorem lw_l_wsX12_errors : ∀ w ∈ wsX12_errors, w ∈ lw_tbl := (lqc lw_w1058 (lqa (lqa lw_l_wsX12_errors_r1 (lqa lw_l_wsX12_errors_r2 (lqa lw_l_wsX12_errors_r3 (lqa lw_l_wsX12_errors_r4 (lqa lw_l_wsX12_errors_r5 lw_l_wsX12_errors_r6))))) lw_u_wsX120))
set_option maxRecDepth 20000 in
theorem lw_l_wsX11_payBands_r1 : ∀ w ∈ wsX11_payBands_r1, w ∈ lw_tbl := (lqc lw_w16 (lqc lw_w357 (lqc lw_w194 (lqc lw_w4 (lqc lw_w3 (lqc lw_w2 (lqc lw_w20 (lqc lw_w1 (lqc lw_w48 (lqc lw_w47 (lqc lw_w46 (lqc lw_w45 (lqc lw_w44 (lqc lw_w43 (lqc lw_w42 (lqc lw_w41 (lqc lw_w40 (lqc lw_w39 (lqc lw_w38 (lqc lw_w37 (lqc lw_w36 (lqc lw_w35 (lqc lw_w34 (lqc lw_w33 lqn))))))))))))))))))))))))
set_option maxRecDepth 20000 in
theorem lw_l_wsX11_payBands_r2 : ∀ w ∈ wsX11_payBands_r2, w ∈ lw_tbl := (lqc lw_w32 (lqc lw_w31 (lqc lw_w30 (lqc lw_w29 (lqc lw_w28 (lqc lw_w27 (lqc lw_w26 (lqc lw_w25 (lqc lw_w72 (lqc lw_w71 (lqc lw_w70 (lqc lw_w69 (lqc lw_w12 (lqc lw_w68 (lqc lw_w67 (lqc lw_w66 (lqc lw_w65 (lqc lw_w64 (lqc lw_w63 (lqc lw_w62 (lqc lw_w61 (lqc lw_w60 (lqc lw_w59 (lqc lw_w58 lqn))))))))))))))))))))))))
set_option maxRecDepth 20000 in
theorem lw_l_wsX11_payBands_r3 : ∀ w ∈ wsX11_payBands_r3, w ∈ lw_tbl := (lqc lw_w57 (lqc lw_w56 (lqc lw_w55 (lqc lw_w54 (lqc lw_w53 (lqc lw_w52 (lqc lw_w51 (lqc lw_w50 (lqc lw_w49 (lqc lw_w96 (lqc lw_w95 (lqc lw_w94 (lqc lw_w93 (lqc lw_w92 (lqc lw_w91 (lqc lw_w90 (lqc lw_w89 (lqc lw_w88 (lqc lw_w87 (lqc lw_w86 (lqc lw_w85 (lqc lw_w84 (lqc lw_w83 (lqc lw_w82 lqn))))))))))))))))))))))))
set_option maxRecDepth 20000 in
theorem lw_l_wsX11_payBands_r4 : ∀ w ∈ wsX11_payBands_r4, w ∈ lw_tbl := (lqc lw_w81 (lqc lw_w80 (lqc lw_w79 (lqc lw_w78 (lqc lw_w77 (lqc lw_w76 (lqc lw_w75 (lqc lw_w74 (lqc lw_w73 (lqc lw_w120 (lqc lw_w119 (lqc lw_w118 (lqc lw_w117 (lqc lw_w116 (lqc lw_w115 (lqc lw_w114 (lqc lw_w113 (lqc lw_w112 (lqc lw_w111 (lqc lw_w110 (lqc lw_w109 (lqc lw_w108 (lqc lw_w107 (lqc lw_w106 lqn))))))))))))))))))))))))
set_option maxRecDepth 20000 in
theorem lw_l_wsX11_payBands_r5 : ∀ w ∈ wsX11_payBands_r5, w ∈ lw_tbl := (lqc lw_w105 (lqc lw_w104 (lqc lw_w103 (lqc lw_w102 (lqc lw_w101 (lqc lw_w100 (lqc lw_w99 (lqc lw_w98 (lqc lw_w97 (lqc lw_w144 (lqc lw_w143 (lqc lw_w142 (lqc lw_w141 (lqc lw_w140 (lqc lw_w139 (lqc lw_w138 (lqc lw_w137 (lqc lw_w136 (lqc lw_w135 (lqc lw_w134 (lqc lw_w133 (lqc lw_w132 (lqc lw_w131 (lqc lw_w130 lqn))))))))))))))))))))))))
set_option maxRecDepth 20000 in
theorem lw_l_wsX11_payBands_r6 : ∀ w ∈ wsX11_payBands_r6, w ∈ lw_tbl := (lqc lw_w129 (lqc lw_w128 (lqc lw_w127 (lqc lw_w126 (lqc lw_w470 (lqc lw_w469 (lqc lw_w468 (lqc lw_w467 (lqc lw_w466 (lqc lw_w465 (lqc lw_w464 (lqc lw_w463 (lqc lw_w462 (lqc lw_w461 (lqc lw_w460 (lqc lw_w459 (lqc lw_w226 (lqc lw_w225 (lqc lw_w224 (lqc lw_w223 (lqc lw_w222 (lqc lw_w233 (lqc lw_w232 (lqc lw_w205 lqn))))))))))))))))))))))))
set_option maxRecDepth 20000 in
theorem lw_l_wsX11_payBands_r7 : ∀ w ∈ wsX11_payBands_r7, w ∈ lw_tbl := (lqc lw_w204 (lqc lw_w203 (lqc lw_w202 (lqc lw_w458 (lqc lw_w490 (lqc lw_w489 (lqc lw_w488 (lqc lw_w487 (lqc lw_w486 (lqc lw_w485 (lqc lw_w484 (lqc lw_w483 (lqc lw_w482 (lqc lw_w481 (lqc lw_w480 (lqc lw_w479 (lqc lw_w478 (lqc lw_w477 (lqc lw_w476 (lqc lw_w475 (lqc lw_w474 (lqc lw_w473 (lqc lw_w1069 (lqc lw_w1068 lqn))))))))))))))))))))))))
set_option maxRecDepth 20000 in
theorem lw_l_wsX11_payBands_r8 : ∀ w ∈ wsX11_payBands_r8, w ∈ lw_tbl := (lqc lw_w1080 (lqc lw_w1079 (lqc lw_w1078 (lqc lw_w1077 (lqc lw_w1076 (lqc lw_w1075 (lqc lw_w1074 (lqc lw_w904 (lqc lw_w903 (lqc lw_w902 (lqc lw_w901 (lqc lw_w900 (lqc lw_w899 (lqc lw_w1073 (lqc lw_w1072 (lqc lw_w1071 (lqc lw_w1070 lqn)))))))))))))))))
set_option maxRecDepth 20000 in
theorem lw_l_wsX11_payBands : ∀ w ∈ wsX11_payBands, w ∈ lw_tbl := (lqc lw_w1067 (lqa (lqa (lqa (lqa (lqa (lqa (lqa (lqa (lqa (lqa (lqa (lqa lw_l_wsX11_payBands_r1 (lqa lw_l_wsX11_payBands_r2 (lqa lw_l_wsX11_payBands_r3 (lqa lw_l_wsX11_payBands_r4 (lqa lw_l_wsX11_payBands_r5 (lqa lw_l_wsX11_payBands_r6 (lqa lw_l_wsX11_payBands_r7 lw_l_wsX11_payBands_r8))))))) lw_u_wsX110) lw_u_wsX50) lw_u_wsX10) lw_u_wsX40) lw_u_wsX70) lw_u_wsX30) lw_u_wsX00) lw_u_wsX100) lw_u_wsX60) lw_u_wsX80) lw_u_wsX90))
set_option maxRecDepth 20000 in
theorem lw_l_wsX11_acts : ∀ w ∈ wsX11_acts, w ∈ lw_tbl := (lqc lw_w1081 (lqa (lqa (lqa (lqc lw_w16 (lqc lw_w194 (lqc lw_w1083 (lqc lw_w478 (lqc lw_w477 (lqc lw_w90 (lqc lw_w476 (lqc lw_w205 (lqc lw_w204 (lqc lw_w203 (lqc lw_w202 (lqc lw_w84 (lqc lw_w1082 (lqc lw_w904 (lqc lw_w903 (lqc lw_w902 (lqc lw_w901 (lqc lw_w900 (lqc lw_w899 lqn))))))))))))))))))) lw_u_wsX110) lw_u_wsX50) lw_u_wsX70))
set_option maxRecDepth 20000 in
theorem lw_l_wsX11_clashes_r1 : ∀ w ∈ wsX11_clashes_r1, w ∈ lw_tbl := (lqc lw_w16 (lqc lw_w194 (lqc lw_w1088 (lqc lw_w1087 (lqc lw_w1086 (lqc lw_w90 (lqc lw_w1085 (lqc lw_w458 (lqc lw_w490 (lqc lw_w489 (lqc lw_w488 (lqc lw_w88 (lqc lw_w84 (lqc lw_w487 (lqc lw_w486 (lqc lw_w485 (lqc lw_w484 (lqc lw_w87 (lqc lw_w85 (lqc lw_w205 (lqc lw_w204 (lqc lw_w203 (lqc lw_w202 (lqc lw_w483 lqn))))))))))))))))))))))))
set_option maxRecDepth 20000 in
theorem lw_l_wsX11_clashes_r2 : ∀ w ∈ wsX11_clashes_r2, w ∈ lw_tbl := (lqc lw_w482 (lqc lw_w481 (lqc lw_w480 (lqc lw_w86 lqn))))
set_option maxRecDepth 20000 in
theorem lw_l_wsX11_clashes : ∀ w ∈ wsX11_clashes, w ∈ lw_tbl := (lqc lw_w1084 (lqa (lqa (lqa (lqa lw_l_wsX11_clashes_r1 lw_l_wsX11_clashes_r2) lw_u_wsX110) lw_u_wsX50) lw_u_wsX70))
set_option maxRecDepth 20000 in
theorem lw_l_wsX11_pleased_r1 : ∀ w ∈ wsX11_pleased_r1, w ∈ lw_tbl := (lqc lw_w16 (lqc lw_w194 (lqc lw_w1093 (lqc lw_w1092 (lqc lw_w1091 (lqc lw_w90 (lqc lw_w1090 (lqc lw_w466 (lqc lw_w465 (lqc lw_w463 (lqc lw_w462 (lqc lw_w461 (lqc lw_w460 (lqc lw_w459 (lqc lw_w226 (lqc lw_w225 (lqc lw_w224 (lqc lw_w223 (lqc lw_w222 (lqc lw_w233 (lqc lw_w232 (lqc lw_w83 (lqc lw_w205 (lqc lw_w204 lqn))))))))))))))))))))))))
set_option maxRecDepth 20000 in
theorem lw_l_wsX11_pleased_r2 : ∀ w ∈ wsX11_pleased_r2, w ∈ lw_tbl := (lqc lw_w203 (lqc lw_w202 (lqc lw_w84 (lqc lw_w458 (lqc lw_w490 (lqc lw_w489 (lqc lw_w488 (lqc lw_w88 (lqc lw_w487 (lqc lw_w486 (lqc lw_w485 (lqc lw_w484 (lqc lw_w87 (lqc lw_w85 (lqc lw_w483 (lqc lw_w482 (lqc lw_w481 (lqc lw_w480 (lqc lw_w86 (lqc lw_w1097 (lqc lw_w1096 (lqc lw_w1095 (lqc lw_w1094 (lqc lw_w495 lqn))))))))))))))))))))))))
set_option maxRecDepth 20000 in
theorem lw_l_wsX11_pleased_r3 : ∀ w ∈ wsX11_pleased_r3, w ∈ lw_tbl := (lqc lw_w494 (lqc lw_w509 (lqc lw_w508 (lqc lw_w475 (lqc lw_w474 (lqc lw_w473 (lqc lw_w470 (lqc lw_w469 (lqc lw_w468 (lqc lw_w467 (lqc lw_w464 (lqc lw_w479 (lqc lw_w478 (lqc lw_w477 (lqc lw_w476 (lqc lw_w1101 (lqc lw_w1100 (lqc lw_w1099 (lqc lw_w1098 lqn)))))))))))))))))))
set_option maxRecDepth 20000 in
theorem lw_l_wsX11_pleased : ∀ w ∈ wsX11_pleased, w ∈ lw_tbl := (lqc lw_w1089 (lqa (lqa (lqa (lqa lw_l_wsX11_pleased_r1 (lqa lw_l_wsX11_pleased_r2 lw_l_wsX11_pleased_r3)) lw_u_wsX110) lw_u_wsX50) lw_u_wsX70))
set_option maxRecDepth 20000 in
theorem lw_l_wsX11_outBy_r1 : ∀ w ∈ wsX11_outBy_r1, w ∈ lw_tbl := (lqc lw_w16 (lqc lw_w243 (lqc lw_w1118 (lqc lw_w1117 (lqc lw_w1116 (lqc lw_w79 (lqc lw_w1115 (lqc lw_w75 (lqc lw_w77 (lqc lw_w639 (lqc lw_w20 (lqc lw_w638 (lqc lw_w1114 (lqc lw_w1113 (lqc lw_w1112 (lqc lw_w1111 (lqc lw_w1110 (lqc lw_w1109 (lqc lw_w1108 (lqc lw_w1107 (lqc lw_w1106 (lqc lw_w1105 (lqc lw_w1104 (lqc lw_w1103 lqn))))))))))))))))))))))))
set_option maxRecDepth 20000 in
theorem lw_l_wsX11_outBy_r2 : ∀ w ∈ wsX11_outBy_r2, w ∈ lw_tbl := (lqc lw_w1124 (lqc lw_w561 (lqc lw_w38 (lqc lw_w560 (lqc lw_w1123 (lqc lw_w1122 (lqc lw_w1121 (lqc lw_w1120 (lqc lw_w76 (lqc lw_w1119 (lqc lw_w39 (lqc lw_w37 lqn))))))))))))
set_option maxRecDepth 20000 in
theorem lw_l_wsX11_outBy : ∀ w ∈ wsX11_outBy, w ∈ lw_tbl := (lqc lw_w1102 (lqa (lqa (lqa (lqa lw_l_wsX11_outBy_r1 lw_l_wsX11_outBy_r2) lw_u_wsX110) lw_u_wsX50) lw_u_wsX30))
set_option maxRecDepth 20000 in
theorem lw_l_wsX11_cut_r1 : ∀ w ∈ wsX11_cut_r1, w ∈ lw_tbl := (lqc lw_w16 (lqc lw_w243 (lqc lw_w1118 (lqc lw_w1117 (lqc lw_w1116 (lqc lw_w79 (lqc lw_w1115 (lqc lw_w75 (lqc lw_w77 (lqc lw_w639 (lqc lw_w20 (lqc lw_w638 (lqc lw_w1114 (lqc lw_w1113 (lqc lw_w1112 (lqc lw_w1111 (lqc lw_w1110 (lqc lw_w1109 (lqc lw_w1108 (lqc lw_w1107 (lqc lw_w1106 (lqc lw_w1105 (lqc lw_w1104 (lqc lw_w1103 lqn))))))))))))))))))))))))
set_option maxRecDepth 20000 in
theorem lw_l_wsX11_cut_r2 : ∀ w ∈ wsX11_cut_r2, w ∈ lw_tbl := (lqc lw_w1124 (lqc lw_w561 (lqc lw_w38 (lqc lw_w560 (lqc lw_w1123 (lqc lw_w1122 (lqc lw_w1121 (lqc lw_w1120 (lqc lw_w76 (lqc lw_w1119 (lqc lw_w39 (lqc lw_w37 (lqc lw_w1126 lqn)))))))))))))
set_option maxRecDepth 20000 in
theorem lw_l_wsX11_cut : ∀ w ∈ wsX11_cut, w ∈ lw_tbl := (lqc lw_w1125 (lqa (lqa (lqa (lqa lw_l_wsX11_cut_r1 lw_l_wsX11_cut_r2) lw_u_wsX110) lw_u_wsX50) lw_u_wsX30))
set_option maxRecDepth 20000 in
theorem lw_l_wsX11_waits_r1 : ∀ w ∈ wsX11_waits_r1, w ∈ lw_tbl := (lqc lw_w16 (lqc lw_w262 (lqc lw_w1135 (lqc lw_w1134 (lqc lw_w1133 (lqc lw_w119 (lqc lw_w1132 (lqc lw_w1131 (lqc lw_w114 (lqc lw_w116 (lqc lw_w117 (lqc lw_w113 (lqc lw_w288 (lqc lw_w287 (lqc lw_w286 (lqc lw_w285 (lqc lw_w284 (lqc lw_w270 (lqc lw_w269 (lqc lw_w268 (lqc lw_w115 (lqc lw_w1130 (lqc lw_w1129 (lqc lw_w1128 lqn))))))))))))))))))))))))
set_option maxRecDepth 20000 in
theorem lw_l_wsX11_waits_r2 : ∀ w ∈ wsX11_waits_r2, w ∈ lw_tbl := (lqc lw_w1141 (lqc lw_w1140 (lqc lw_w1139 (lqc lw_w1138 (lqc lw_w1137 (lqc lw_w1136 (lqc lw_w282 (lqc lw_w281 (lqc lw_w280 lqn)))))))))
set_option maxRecDepth 20000 in
theorem lw_l_wsX11_waits : ∀ w ∈ wsX11_waits, w ∈ lw_tbl := (lqc lw_w1127 (lqa (lqa (lqa (lqa lw_l_wsX11_waits_r1 lw_l_wsX11_waits_r2) lw_u_wsX110) lw_u_wsX50) lw_u_wsX00))
set_option maxRecDepth 20000 in
theorem lw_l_wsX11_served : ∀ w ∈ wsX11_served, w ∈ lw_tbl := (lqc lw_w1142 (lqa (lqa (lqa (lqc lw_w16 (lqc lw_w262 (lqc lw_w300 lqn))) lw_u_wsX110) lw_u_wsX50) lw_u_wsX00))
set_option maxRecDepth 20000 in
theorem lw_l_wsX11_proof : ∀ w ∈ wsX11_proof, w ∈ lw_tbl := (lqc lw_w1143 (lqa (lqa (lqa (lqc lw_w16 (lqc lw_w312 (lqc lw_w1152 (lqc lw_w1151 (lqc lw_w1150 (lqc lw_w108 (lqc lw_w1149 (lqc lw_w1148 (lqc lw_w644 (lqc lw_w561 (lqc lw_w38 (lqc lw_w560 (lqc lw_w106 (lqc lw_w105 (lqc lw_w520 (lqc lw_w20 (lqc lw_w519 (lqc lw_w1147 (lqc lw_w1146 (lqc lw_w1145 (lqc lw_w1144 lqn))))))))))))))))))))) lw_u_wsX110) lw_u_wsX50) lw_u_wsX100))
set_option maxRecDepth 20000 in
theorem lw_l_wsX11_cost_r1 : ∀ w ∈ wsX11_cost_r1, w ∈ lw_tbl := (lqc lw_w16 (lqc lw_w325 (lqc lw_w654 (lqc lw_w653 (lqc lw_w652 (lqc lw_w101 (lqc lw_w651 (lqc lw_w98 (lqc lw_w650 (lqc lw_w97 (lqc lw_w675 (lqc lw_w144 (lqc lw_w674 (lqc lw_w673 (lqc lw_w672 (lqc lw_w671 (lqc lw_w670 (lqc lw_w520 (lqc lw_w20 (lqc lw_w519 (lqc lw_w669 (lqc lw_w668 (lqc lw_w667 (lqc lw_w666 lqn))))))))))))))))))))))))
set_option maxRecDepth 20000 in
theorem lw_l_wsX11_cost_r2 : ∀ w ∈ wsX11_cost_r2, w ∈ lw_tbl := (lqc lw_w665 (lqc lw_w664 (lqc lw_w663 (lqc lw_w662 (lqc lw_w661 (lqc lw_w99 (lqc lw_w660 (lqc lw_w39 (lqc lw_w38 (lqc lw_w37 (lqc lw_w659 (lqc lw_w682 (lqc lw_w681 (lqc lw_w680 lqn))))))))))))))
set_option maxRecDepth 20000 in
theorem lw_l_wsX11_cost : ∀ w ∈ wsX11_cost, w ∈ lw_tbl := (lqc lw_w1153 (lqa (lqa (lqa (lqa lw_l_wsX11_cost_r1 lw_l_wsX11_cost_r2) lw_u_wsX110) lw_u_wsX50) lw_u_wsX60))
set_option maxRecDepth 20000 in
theorem lw_l_wsX11_lost : ∀ w ∈ wsX11_lost, w ∈ lw_tbl := (lqc lw_w1154 (lqa (lqa (lqa (lqc lw_w16 (lqc lw_w151 (lqc lw_w417 (lqc lw_w420 (lqc lw_w419 (lqc lw_w57 (lqc lw_w418 (lqc lw_w52 lqn)))))))) lw_u_wsX110) lw_u_wsX50) lw_u_wsX40))
set_option maxRecDepth 20000 in
theorem lw_l_wsX11_lineupShare_r1 : ∀ w ∈ wsX11_lineupShare_r1, w ∈ lw_tbl := (lqc lw_w16 (lqc lw_w194 (lqc lw_w1083 (lqc lw_w478 (lqc lw_w477 (lqc lw_w90 (lqc lw_w476 (lqc lw_w205 (lqc lw_w204 (lqc lw_w203 (lqc lw_w202 (lqc lw_w84 (lqc lw_w1082 (lqc lw_w904 (lqc lw_w903 (lqc lw_w902 (lqc lw_w901 (lqc lw_w900 (lqc lw_w899 (lqc lw_w470 (lqc lw_w469 (lqc lw_w468 (lqc lw_w467 (lqc lw_w466 lqn))))))))))))))))))))))))
set_option maxRecDepth 20000 in
theorem lw_l_wsX11_lineupShare_r2 : ∀ w ∈ wsX11_lineupShare_r2, w ∈ lw_tbl := (lqc lw_w465 (lqc lw_w464 (lqc lw_w463 (lqc lw_w462 (lqc lw_w461 (lqc lw_w460 (lqc lw_w459 (lqc lw_w226 (lqc lw_w225 (lqc lw_w224 (lqc lw_w223 (lqc lw_w222 (lqc lw_w233 (lqc lw_w232 (lqc lw_w83 (lqc lw_w458 (lqc lw_w490 (lqc lw_w489 (lqc lw_w488 (lqc lw_w88 (lqc lw_w487 (lqc lw_w486 (lqc lw_w485 (lqc lw_w484 lqn))))))))))))))))))))))))
set_option maxRecDepth 20000 in
theorem lw_l_wsX11_lineupShare_r3 : ∀ w ∈ wsX11_lineupShare_r3, w ∈ lw_tbl := (lqc lw_w87 (lqc lw_w85 (lqc lw_w483 (lqc lw_w482 (lqc lw_w481 (lqc lw_w480 (lqc lw_w86 (lqc lw_w479 (lqc lw_w475 (lqc lw_w474 (lqc lw_w473 lqn)))))))))))
set_option maxRecDepth 20000 in
theorem lw_l_wsX11_lineupShare : ∀ w ∈ wsX11_lineupShare, w ∈ lw_tbl := (lqc lw_w1155 (lqa (lqa (lqa (lqa lw_l_wsX11_lineupShare_r1 (lqa lw_l_wsX11_lineupShare_r2 lw_l_wsX11_lineupShare_r3)) lw_u_wsX110) lw_u_wsX50) lw_u_wsX70))
set_option maxRecDepth 20000 in
theorem lw_l_wsX11_checksum : ∀ w ∈ wsX11_checksum, w ∈ lw_tbl := (lqc lw_w1156 (lqa (lqa (lqa (lqa (lqc lw_w16 (lqc lw_w194 (lqc lw_w1164 (lqc lw_w1163 (lqc lw_w357 (lqc lw_w734 (lqc lw_w1162 (lqc lw_w1161 (lqc lw_w1160 (lqc lw_w90 (lqc lw_w1159 (lqc lw_w1158 (lqc lw_w87 (lqc lw_w1157 (lqc lw_w88 (lqc lw_w205 (lqc lw_w204 (lqc lw_w203 (lqc lw_w202 (lqc lw_w84 lqn)))))))))))))))))))) lw_u_wsX110) lw_u_wsX50) lw_u_wsX80) lw_u_wsX70))
set_option maxRecDepth 20000 in
theorem lw_l_wsX11_errors_r1 : ∀ w ∈ wsX11_errors_r1, w ∈ lw_tbl := (lqc lw_w16 (lqc lw_w194 (lqc lw_w262 (lqc lw_w357 (lqc lw_w470 (lqc lw_w469 (lqc lw_w468 (lqc lw_w90 (lqc lw_w467 (lqc lw_w466 (lqc lw_w465 (lqc lw_w464 (lqc lw_w463 (lqc lw_w462 (lqc lw_w461 (lqc lw_w460 (lqc lw_w459 (lqc lw_w226 (lqc lw_w225 (lqc lw_w224 (lqc lw_w223 (lqc lw_w222 (lqc lw_w233 (lqc lw_w232 lqn))))))))))))))))))))))))
set_option maxRecDepth 20000 in
theorem lw_l_wsX11_errors_r2 : ∀ w ∈ wsX11_errors_r2, w ∈ lw_tbl := (lqc lw_w83 (lqc lw_w205 (lqc lw_w204 (lqc lw_w203 (lqc lw_w202 (lqc lw_w84 (lqc lw_w458 (lqc lw_w490 (lqc lw_w489 (lqc lw_w488 (lqc lw_w88 (lqc lw_w487 (lqc lw_w486 (lqc lw_w485 (lqc lw_w484 (lqc lw_w87 (lqc lw_w85 (lqc lw_w483 (lqc lw_w482 (lqc lw_w481 (lqc lw_w480 (lqc lw_w86 (lqc lw_w479 (lqc lw_w478 lqn))))))))))))))))))))))))
set_option maxRecDepth 20000 in
theorem lw_l_wsX11_errors_r3 : ∀ w ∈ wsX11_errors_r3, w ∈ lw_tbl := (lqc lw_w477 (lqc lw_w476 (lqc lw_w475 (lqc lw_w474 (lqc lw_w473 (lqc lw_w1101 (lqc lw_w1100 (lqc lw_w1099 (lqc lw_w1098 (lqc lw_w1093 (lqc lw_w1092 (lqc lw_w1091 (lqc lw_w1090 (lqc lw_w1097 (lqc lw_w1096 (lqc lw_w1095 (lqc lw_w1094 (lqc lw_w495 (lqc lw_w494 (lqc lw_w509 (lqc lw_w508 (lqc lw_w1167 (lqc lw_w1166 (lqc lw_w20 lqn))))))))))))))))))))))))
set_option maxRecDepth 20000 in
theorem lw_l_wsX11_errors_r4 : ∀ w ∈ wsX11_errors_r4, w ∈ lw_tbl := (lqc lw_w1172 (lqc lw_w1171 (lqc lw_w1170 (lqc lw_w1169 (lqc lw_w1168 (lqc lw_w529 (lqc lw_w528 (lqc lw_w527 (lqc lw_w526 (lqc lw_w525 (lqc lw_w524 (lqc lw_w523 (lqc lw_w522 (lqc lw_w521 (lqc lw_w520 (lqc lw_w519 (lqc lw_w518 (lqc lw_w517 (lqc lw_w542 (lqc lw_w541 (lqc lw_w507 (lqc lw_w506 (lqc lw_w505 (lqc lw_w504 lqn))))))))))))))))))))))))
set_option maxRecDepth 20000 in
theorem lw_l_wsX11_errors_r5 : ∀ w ∈ wsX11_errors_r5, w ∈ lw_tbl := (lqc lw_w540 (lqc lw_w539 (lqc lw_w538 (lqc lw_w537 (lqc lw_w536 (lqc lw_w535 (lqc lw_w534 (lqc lw_w553 (lqc lw_w552 (lqc lw_w551 (lqc lw_w550 (lqc lw_w549 (lqc lw_w548 (lqc lw_w547 (lqc lw_w546 (lqc lw_w545 (lqc lw_w544 (lqc lw_w543 (lqc lw_w180 (lqc lw_w179 (lqc lw_w57 (lqc lw_w178 (lqc lw_w53 (lqc lw_w188 lqn))))))))))))))))))))))))
set_option maxRecDepth 20000 in
theorem lw_l_wsX11_errors_r6 : ∀ w ∈ wsX11_errors_r6, w ∈ lw_tbl := (lqc lw_w187 (lqc lw_w574 (lqc lw_w573 (lqc lw_w572 (lqc lw_w571 (lqc lw_w570 (lqc lw_w569 (lqc lw_w568 (lqc lw_w567 (lqc lw_w566 (lqc lw_w565 (lqc lw_w564 (lqc lw_w563 (lqc lw_w562 (lqc lw_w561 (lqc lw_w38 (lqc lw_w560 (lqc lw_w559 (lqc lw_w558 (lqc lw_w557 (lqc lw_w556 (lqc lw_w555 (lqc lw_w554 (lqc lw_w576 lqn))))))))))))))))))))))))
set_option maxRecDepth 20000 in
theorem lw_l_wsX11_errors_r7 : ∀ w ∈ wsX11_errors_r7, w ∈ lw_tbl := (lqc lw_w575 (lqc lw_w1177 (lqc lw_w1176 (lqc lw_w1175 (lqc lw_w1174 (lqc lw_w1173 (lqc lw_w243 (lqc lw_w1118 (lqc lw_w1117 (lqc lw_w1116 (lqc lw_w79 (lqc lw_w1115 (lqc lw_w75 (lqc lw_w77 (lqc lw_w639 (lqc lw_w638 (lqc lw_w1114 (lqc lw_w1113 (lqc lw_w1112 (lqc lw_w1111 (lqc lw_w1110 (lqc lw_w1109 (lqc lw_w1108 (lqc lw_w1107 lqn))))))))))))))))))))))))
set_option maxRecDepth 20000 in
theorem lw_l_wsX11_errors_r8 : ∀ w ∈ wsX11_errors_r8, w ∈ lw_tbl := (lqc lw_w1106 (lqc lw_w1105 (lqc lw_w1104 (lqc lw_w1103 (lqc lw_w1124 (lqc lw_w1123 (lqc lw_w1122 (lqc lw_w1121 (lqc lw_w1120 (lqc lw_w76 (lqc lw_w1119 (lqc lw_w39 (lqc lw_w37 (lqc lw_w1126 (lqc lw_w1135 (lqc lw_w1134 (lqc lw_w1133 (lqc lw_w119 (lqc lw_w1132 (lqc lw_w1131 (lqc lw_w114 (lqc lw_w116 (lqc lw_w117 (lqc lw_w113 lqn))))))))))))))))))))))))
set_option maxRecDepth 20000 in
theorem lw_l_wsX11_errors_r9 : ∀ w ∈ wsX11_errors_r9, w ∈ lw_tbl := (lqc lw_w288 (lqc lw_w287 (lqc lw_w286 (lqc lw_w285 (lqc lw_w284 (lqc lw_w270 (lqc lw_w269 (lqc lw_w268 (lqc lw_w115 (lqc lw_w1130 (lqc lw_w1129 (lqc lw_w1128 (lqc lw_w1141 (lqc lw_w1140 (lqc lw_w1139 (lqc lw_w1138 (lqc lw_w1137 (lqc lw_w1136 (lqc lw_w282 (lqc lw_w281 (lqc lw_w280 (lqc lw_w1180 (lqc lw_w1179 (lqc lw_w1178 lqn))))))))))))))))))))))))
set_option maxRecDepth 20000 in
theorem lw_l_wsX11_errors_r10 : ∀ w ∈ wsX11_errors_r10, w ∈ lw_tbl := (lqc lw_w1181 (lqc lw_w312 (lqc lw_w632 (lqc lw_w631 (lqc lw_w630 (lqc lw_w108 (lqc lw_w629 (lqc lw_w628 (lqc lw_w106 (lqc lw_w105 (lqc lw_w627 (lqc lw_w648 (lqc lw_w647 (lqc lw_w646 (lqc lw_w645 (lqc lw_w644 (lqc lw_w643 (lqc lw_w642 (lqc lw_w641 (lqc lw_w640 (lqc lw_w1152 (lqc lw_w1151 (lqc lw_w1150 (lqc lw_w1149 lqn))))))))))))))))))))))))
set_option maxRecDepth 20000 in
theorem lw_l_wsX11_errors_r11 : ∀ w ∈ wsX11_errors_r11, w ∈ lw_tbl := (lqc lw_w1148 (lqc lw_w1147 (lqc lw_w1146 (lqc lw_w1145 (lqc lw_w1144 (lqc lw_w1189 (lqc lw_w1188 (lqc lw_w1187 (lqc lw_w1186 (lqc lw_w1185 (lqc lw_w1184 (lqc lw_w1183 (lqc lw_w140 (lqc lw_w1182 (lqc lw_w136 (lqc lw_w135 (lqc lw_w134 lqn)))))))))))))))))
set_option maxRecDepth 20000 in
theorem lw_l_wsX11_errors : ∀ w ∈ wsX11_errors, w ∈ lw_tbl := (lqc lw_w1165 (lqa (lqa (lqa (lqa (lqa (lqa (lqa (lqa (lqa (lqa lw_l_wsX11_errors_r1 (lqa lw_l_wsX11_errors_r2 (lqa lw_l_wsX11_errors_r3 (lqa lw_l_wsX11_errors_r4 (lqa lw_l_wsX11_errors_r5 (lqa lw_l_wsX11_errors_r6 (lqa lw_l_wsX11_errors_r7 (lqa lw_l_wsX11_errors_r8 (lqa lw_l_wsX11_errors_r9 (lqa lw_l_wsX11_errors_r10 lw_l_wsX11_errors_r11)))))))))) lw_u_wsX110) lw_u_wsX50) lw_u_wsX70) lw_u_wsX20) lw_u_wsX40) lw_u_wsX30) lw_u_wsX00) lw_u_wsX100) lw_u_wsX80))
set_option maxRecDepth 20000 in
theorem lw_l_wsX11_init_r1 : ∀ w ∈ wsX11_init_r1, w ∈ lw_tbl := (lqc lw_w1203 (lqc lw_w1202 (lqc lw_w1201 (lqc lw_w1200 (lqc lw_w1199 (lqc lw_w33 (lqc lw_w16 (lqc lw_w43 (lqc lw_w1198 (lqc lw_w1197 (lqc lw_w525 (lqc lw_w151 (lqc lw_w194 (lqc lw_w529 (lqc lw_w1196 (lqc lw_w1195 (lqc lw_w128 (lqc lw_w48 (lqc lw_w42 (lqc lw_w41 (lqc lw_w1194 (lqc lw_w1193 (lqc lw_w1192 (lqc lw_w1191 lqn))))))))))))))))))))))))
set_option maxRecDepth 20000 in
theorem lw_l_wsX11_init_r2 : ∀ w ∈ wsX11_init_r2, w ∈ lw_tbl := (lqc lw_w1215 (lqc lw_w12 (lqc lw_w31 (lqc lw_w1214 (lqc lw_w1213 (lqc lw_w57 (lqc lw_w30 (lqc lw_w1212 (lqc lw_w1211 (lqc lw_w90 (lqc lw_w29 (lqc lw_w1210 (lqc lw_w1209 (lqc lw_w79 (lqc lw_w28 (lqc lw_w1208 (lqc lw_w1207 (lqc lw_w119 (lqc lw_w27 (lqc lw_w1206 (lqc lw_w1205 (lqc lw_w108 (lqc lw_w26 (lqc lw_w1204 lqn))))))))))))))))))))))))
set_option maxRecDepth 20000 in
theorem lw_l_wsX11_init_r3 : ∀ w ∈ wsX11_init_r3, w ∈ lw_tbl := (lqc lw_w1226 (lqc lw_w101 (lqc lw_w25 (lqc lw_w1225 (lqc lw_w1224 (lqc lw_w140 (lqc lw_w72 (lqc lw_w1223 (lqc lw_w1222 (lqc lw_w1221 (lqc lw_w67 (lqc lw_w66 (lqc lw_w65 (lqc lw_w1220 (lqc lw_w1219 (lqc lw_w1218 (lqc lw_w1217 (lqc lw_w1216 (lqc lw_w55 (lqc lw_w987 (lqc lw_w54 (lqc lw_w53 (lqc lw_w52 (lqc lw_w520 lqn))))))))))))))))))))))))
set_option maxRecDepth 20000 in
theorem lw_l_wsX11_init_r4 : ∀ w ∈ wsX11_init_r4, w ∈ lw_tbl := (lqc lw_w20 (lqc lw_w519 (lqc lw_w1237 (lqc lw_w1236 (lqc lw_w1235 (lqc lw_w88 (lqc lw_w87 (lqc lw_w86 (lqc lw_w85 (lqc lw_w84 (lqc lw_w83 (lqc lw_w466 (lqc lw_w465 (lqc lw_w1234 (lqc lw_w1233 (lqc lw_w1232 (lqc lw_w1231 (lqc lw_w77 (lqc lw_w76 (lqc lw_w75 (lqc lw_w1230 (lqc lw_w1229 (lqc lw_w1228 (lqc lw_w1227 lqn))))))))))))))))))))))))
set_option maxRecDepth 20000 in
theorem lw_l_wsX11_init_r5 : ∀ w ∈ wsX11_init_r5, w ∈ lw_tbl := (lqc lw_w117 (lqc lw_w116 (lqc lw_w115 (lqc lw_w114 (lqc lw_w1131 (lqc lw_w113 (lqc lw_w112 (lqc lw_w1243 (lqc lw_w1242 (lqc lw_w1241 (lqc lw_w106 (lqc lw_w105 (lqc lw_w628 (lqc lw_w1148 (lqc lw_w1240 (lqc lw_w1239 (lqc lw_w1238 (lqc lw_w99 (lqc lw_w98 (lqc lw_w97 (lqc lw_w144 (lqc lw_w650 (lqc lw_w675 (lqc lw_w674 lqn))))))))))))))))))))))))
set_option maxRecDepth 20000 in
theorem lw_l_wsX11_init_r6 : ∀ w ∈ wsX11_init_r6, w ∈ lw_tbl := (lqc lw_w673 (lqc lw_w1256 (lqc lw_w1255 (lqc lw_w1254 (lqc lw_w1253 (lqc lw_w138 (lqc lw_w137 (lqc lw_w136 (lqc lw_w1252 (lqc lw_w135 (lqc lw_w134 (lqc lw_w1251 (lqc lw_w1250 (lqc lw_w1249 (lqc lw_w1248 (lqc lw_w522 (lqc lw_w523 (lqc lw_w551 (lqc lw_w521 (lqc lw_w1247 (lqc lw_w1246 (lqc lw_w1245 (lqc lw_w1244 (lqc lw_w126 lqn))))))))))))))))))))))))
set_option maxRecDepth 20000 in
theorem lw_l_wsX11_init_r7 : ∀ w ∈ wsX11_init_r7, w ∈ lw_tbl := (lqc lw_w350 (lqc lw_w709 (lqc lw_w710 (lqc lw_w704 (lqc lw_w708 (lqc lw_w699 (lqc lw_w349 lqn)))))))
set_option maxRecDepth 20000 in
theorem lw_l_wsX11_init : ∀ w ∈ wsX11_init, w ∈ lw_tbl := (lqc lw_w1190 (lqa (lqa (lqa (lqa (lqa (lqa (lqa (lqa (lqa (lqa (lqa (lqa (lqa lw_l_wsX11_init_r1 (lqa lw_l_wsX11_init_r2 (lqa lw_l_wsX11_init_r3 (lqa lw_l_wsX11_init_r4 (lqa lw_l_wsX11_init_r5 (lqa lw_l_wsX11_init_r6 lw_l_wsX11_init_r7)))))) lw_u_wsX50) lw_u_wsX110) lw_u_wsX20) lw_u_wsX90) lw_u_wsX10) lw_u_wsX40) lw_u_wsX70) lw_u_wsX30) lw_u_wsX00) lw_u_wsX100) lw_u_wsX60) lw_u_wsX80))
set_option maxRecDepth 20000 in
theorem lw_l_wsX12_init : ∀ w ∈ wsX12_init, w ∈ lw_tbl := (lqc lw_w1257 (lqa (lqc lw_w1259 (lqc lw_w1202 (lqc lw_w1201 (lqc lw_w987 (lqc lw_w770 (lqc lw_w1258 (lqc lw_w776 (lqc lw_w935 (lqc lw_w948 (lqc lw_w1001 (lqc lw_w1025 (lqc lw_w864 (lqc lw_w1036 (lqc lw_w1034 lqn)))))))))))))) lw_u_wsX120))
