set_option maxRecDepth 20000 in
theorem lw_g_wsL_setDate : GoodIn lw_tbl wsL_setDate := goodIn_sub lw_l_wsL_setDate (by decide +kernel)
set_option maxRecDepth 20000 in
theorem lw_g_wsL_setOpen : GoodIn lw_tbl wsL_setOpen := goodIn_sub lw_l_wsL_setOpen (by decide +kernel)
set_option maxRecDepth 20000 in
theorem lw_g_wsL_setWay : GoodIn lw_tbl wsL_setWay := goodIn_sub lw_l_wsL_setWay (by decide +kernel)
set_option maxRecDepth 20000 in
theorem lw_g_wsL_act : GoodIn lw_tbl wsL_act := goodIn_sub lw_l_wsL_act (by decide +kernel)
set_option maxRecDepth 20000 in
theorem lw_g_wsL_drop : GoodIn lw_tbl wsL_drop := goodIn_sub lw_l_wsL_drop (by decide +kernel)
set_option maxRecDepth 20000 in
theorem lw_g_wsL_wish : GoodIn lw_tbl wsL_wish := goodIn_sub lw_l_wsL_wish (by decide +kernel)
set_option maxRecDepth 20000 in
theorem lw_g_wsL_setGate : GoodIn lw_tbl wsL_setGate := goodIn_sub lw_l_wsL_setGate (by decide +kernel)
set_option maxRecDepth 20000 in
theorem lw_g_wsL_setReach : GoodIn lw_tbl wsL_setReach := goodIn_sub lw_l_wsL_setReach (by decide +kernel)
set_option maxRecDepth 20000 in
theorem lw_g_wsL_setCrowd : GoodIn lw_tbl wsL_setCrowd := goodIn_sub lw_l_wsL_setCrowd (by decide +kernel)
set_option maxRecDepth 20000 in
theorem lw_g_wsL_setServing : GoodIn lw_tbl wsL_setServing := goodIn_sub lw_l_wsL_setServing (by decide +kernel)
set_option maxRecDepth 20000 in
theorem lw_g_wsL_join : GoodIn lw_tbl wsL_join := goodIn_sub lw_l_wsL_join (by decide +kernel)
set_option maxRecDepth 20000 in
theorem lw_g_wsL_leave : GoodIn lw_tbl wsL_leave := goodIn_sub lw_l_wsL_leave (by decide +kernel)
set_option maxRecDepth 20000 in
theorem lw_g_wsL_pass : GoodIn lw_tbl wsL_pass := goodIn_sub lw_l_wsL_pass (by decide +kernel)
set_option maxRecDepth 20000 in
theorem lw_g_wsL_setNeed : GoodIn lw_tbl wsL_setNeed := goodIn_sub lw_l_wsL_setNeed (by decide +kernel)
set_option maxRecDepth 20000 in
theorem lw_g_wsL_setShift : GoodIn lw_tbl wsL_setShift := goodIn_sub lw_l_wsL_setShift (by decide +kernel)
set_option maxRecDepth 20000 in
theorem lw_g_wsL_setLoad : GoodIn lw_tbl wsL_setLoad := goodIn_sub lw_l_wsL_setLoad (by decide +kernel)
set_option maxRecDepth 20000 in
theorem lw_g_wsL_setGenerator : GoodIn lw_tbl wsL_setGenerator := goodIn_sub lw_l_wsL_setGenerator (by decide +kernel)
set_option maxRecDepth 20000 in
theorem lw_g_wsL_moveAll : GoodIn lw_tbl wsL_moveAll := goodIn_sub lw_l_wsL_moveAll (by decide +kernel)
set_option maxRecDepth 20000 in
theorem lw_g_wsL_setPrice : GoodIn lw_tbl wsL_setPrice := goodIn_sub lw_l_wsL_setPrice (by decide +kernel)
set_option maxRecDepth 20000 in
theorem lw_g_wsL_ticket : GoodIn lw_tbl wsL_ticket := goodIn_sub lw_l_wsL_ticket (by decide +kernel)
set_option maxRecDepth 20000 in
theorem lw_g_wsL_refund : GoodIn lw_tbl wsL_refund := goodIn_sub lw_l_wsL_refund (by decide +kernel)
set_option maxRecDepth 20000 in
theorem lw_g_wsL_resell : GoodIn lw_tbl wsL_resell := goodIn_sub lw_l_wsL_resell (by decide +kernel)
set_option maxRecDepth 20000 in
theorem lw_g_wsL_lose : GoodIn lw_tbl wsL_lose := goodIn_sub lw_l_wsL_lose (by decide +kernel)
set_option maxRecDepth 20000 in
theorem lw_g_wsL_find : GoodIn lw_tbl wsL_find := goodIn_sub lw_l_wsL_find (by decide +kernel)
set_option maxRecDepth 20000 in
theorem lw_g_wsL_undo : GoodIn lw_tbl wsL_undo := goodIn_sub lw_l_wsL_undo (by decide +kernel)
set_option maxRecDepth 20000 in
theorem lw_g_wsL_dateAt : GoodIn lw_tbl wsL_dateAt := goodIn_sub lw_l_wsL_dateAt (by decide +kernel)
set_option maxRecDepth 20000 in
theorem lw_g_wsL_walk : GoodIn lw_tbl wsL_walk := goodIn_sub lw_l_wsL_walk (by decide +kernel)
set_option maxRecDepth 20000 in
theorem lw_g_wsL_actAt : GoodIn lw_tbl wsL_actAt := goodIn_sub lw_l_wsL_actAt (by decide +kernel)
set_option maxRecDepth 20000 in
theorem lw_g_wsL_firstIn : GoodIn lw_tbl wsL_firstIn := goodIn_sub lw_l_wsL_firstIn (by decide +kernel)
set_option maxRecDepth 20000 in
theorem lw_g_wsL_clash : GoodIn lw_tbl wsL_clash := goodIn_sub lw_l_wsL_clash (by decide +kernel)
set_option maxRecDepth 20000 in
theorem lw_g_wsL_evening : GoodIn lw_tbl wsL_evening := goodIn_sub lw_l_wsL_evening (by decide +kernel)
set_option maxRecDepth 20000 in
theorem lw_g_wsL_eveningAct : GoodIn lw_tbl wsL_eveningAct := goodIn_sub lw_l_wsL_eveningAct (by decide +kernel)
set_option maxRecDepth 20000 in
theorem lw_g_wsL_price : GoodIn lw_tbl wsL_price := goodIn_sub lw_l_wsL_price (by decide +kernel)
set_option maxRecDepth 20000 in
theorem lw_g_wsL_listeners : GoodIn lw_tbl wsL_listeners := goodIn_sub lw_l_wsL_listeners (by decide +kernel)
set_option maxRecDepth 20000 in
theorem lw_g_wsL_line : GoodIn lw_tbl wsL_line := goodIn_sub lw_l_wsL_line (by decide +kernel)
set_option maxRecDepth 20000 in
theorem lw_g_wsL_front : GoodIn lw_tbl wsL_front := goodIn_sub lw_l_wsL_front (by decide +kernel)
set_option maxRecDepth 20000 in
theorem lw_g_wsL_waitOf : GoodIn lw_tbl wsL_waitOf := goodIn_sub lw_l_wsL_waitOf (by decide +kernel)
set_option maxRecDepth 20000 in
theorem lw_g_wsL_helpers : GoodIn lw_tbl wsL_helpers := goodIn_sub lw_l_wsL_helpers (by decide +kernel)
set_option maxRecDepth 20000 in
theorem lw_g_wsL_isOn : GoodIn lw_tbl wsL_isOn := goodIn_sub lw_l_wsL_isOn (by decide +kernel)
set_option maxRecDepth 20000 in
theorem lw_g_wsL_rain : GoodIn lw_tbl wsL_rain := goodIn_sub lw_l_wsL_rain (by decide +kernel)
set_option maxRecDepth 20000 in
theorem lw_g_wsL_movedTo : GoodIn lw_tbl wsL_movedTo := goodIn_sub lw_l_wsL_movedTo (by decide +kernel)
set_option maxRecDepth 20000 in
theorem lw_g_wsL_ticketAt : GoodIn lw_tbl wsL_ticketAt := goodIn_sub lw_l_wsL_ticketAt (by decide +kernel)
set_option maxRecDepth 20000 in
theorem lw_g_wsL_balance : GoodIn lw_tbl wsL_balance := goodIn_sub lw_l_wsL_balance (by decide +kernel)
set_option maxRecDepth 20000 in
theorem lw_g_wsL_meanEvening : GoodIn lw_tbl wsL_meanEvening := goodIn_sub lw_l_wsL_meanEvening (by decide +kernel)
set_option maxRecDepth 20000 in
theorem lw_g_wsX12_setDate : GoodIn lw_tbl wsX12_setDate := goodIn_sub lw_l_wsX12_setDate (by decide +kernel)
set_option maxRecDepth 20000 in
theorem lw_g_wsX12_thrown : GoodIn lw_tbl wsX12_thrown := goodIn_sub lw_l_wsX12_thrown (by decide +kernel)
set_option maxRecDepth 20000 in
theorem lw_g_wsX12_setOpen : GoodIn lw_tbl wsX12_setOpen := goodIn_sub lw_l_wsX12_setOpen (by decide +kernel)
set_option maxRecDepth 20000 in
theorem lw_g_wsX12_setWay : GoodIn lw_tbl wsX12_setWay := goodIn_sub lw_l_wsX12_setWay (by decide +kernel)
set_option maxRecDepth 20000 in
theorem lw_g_wsX12_act : GoodIn lw_tbl wsX12_act := goodIn_sub lw_l_wsX12_act (by decide +kernel)
set_option maxRecDepth 20000 in
theorem lw_g_wsX12_drop : GoodIn lw_tbl wsX12_drop := goodIn_sub lw_l_wsX12_drop (by decide +kernel)
set_option maxRecDepth 20000 in
theorem lw_g_wsX12_wish : GoodIn lw_tbl wsX12_wish := goodIn_sub lw_l_wsX12_wish (by decide +kernel)
set_option maxRecDepth 20000 in
theorem lw_g_wsX12_setGate : GoodIn lw_tbl wsX12_setGate := goodIn_sub lw_l_wsX12_setGate (by decide +kernel)
set_option maxRecDepth 20000 in
theorem lw_g_wsX12_setReach : GoodIn lw_tbl wsX12_setReach := goodIn_sub lw_l_wsX12_setReach (by decide +kernel)
set_option maxRecDepth 20000 in
theorem lw_g_wsX12_setCrowd : GoodIn lw_tbl wsX12_setCrowd := goodIn_sub lw_l_wsX12_setCrowd (by decide +kernel)
set_option maxRecDepth 20000 in
theorem lw_g_wsX12_setServing : GoodIn lw_tbl wsX12_setServing := goodIn_sub lw_l_wsX12_setServing (by decide +kernel)
set_option maxRecDepth 20000 in
theorem lw_g_wsX12_join : GoodIn lw_tbl wsX12_join := goodIn_sub lw_l_wsX12_join (by decide +kernel)
set_option maxRecDepth 20000 in
theorem lw_g_wsX12_leave : GoodIn lw_tbl wsX12_leave := goodIn_sub lw_l_wsX12_leave (by decide +kernel)
set_option maxRecDepth 20000 in
theorem lw_g_wsX12_pass : GoodIn lw_tbl wsX12_pass := goodIn_sub lw_l_wsX12_pass (by decide +kernel)
set_option maxRecDepth 20000 in
theorem lw_g_wsX12_setNeed : GoodIn lw_tbl wsX12_setNeed := goodIn_sub lw_l_wsX12_setNeed (by decide +kernel)
set_option maxRecDepth 20000 in
theorem lw_g_wsX12_setShift : GoodIn lw_tbl wsX12_setShift := goodIn_sub lw_l_wsX12_setShift (by decide +kernel)
set_option maxRecDepth 20000 in
theorem lw_g_wsX12_setLoad : GoodIn lw_tbl wsX12_setLoad := goodIn_sub lw_l_wsX12_setLoad (by decide +kernel)
set_option maxRecDepth 20000 in
theorem lw_g_wsX12_setGenerator : GoodIn lw_tbl wsX12_setGenerator := goodIn_sub lw_l_wsX12_setGenerator (by decide +kernel)
set_option maxRecDepth 20000 in
theorem lw_g_wsX12_moveAll : GoodIn lw_tbl wsX12_moveAll := goodIn_sub lw_l_wsX12_moveAll (by decide +kernel)
set_option maxRecDepth 20000 in
theorem lw_g_wsX12_setPrice : GoodIn lw_tbl wsX12_setPrice := goodIn_sub lw_l_wsX12_setPrice (by decide +kernel)
set_option maxRecDepth 20000 in
theorem lw_g_wsX12_ticket : GoodIn lw_tbl wsX12_ticket := goodIn_sub lw_l_wsX12_ticket (by decide +kernel)
set_option maxRecDepth 20000 in
theorem lw_g_wsX12_refund : GoodIn lw_tbl wsX12_refund := goodIn_sub lw_l_wsX12_refund (by decide +kernel)
set_option maxRecDepth 20000 in
theorem lw_g_wsX12_resell : GoodIn lw_tbl wsX12_resell := goodIn_sub lw_l_wsX12_resell (by decide +kernel)
set_option maxRecDepth 20000 in
theorem lw_g_wsX12_payBands : GoodIn lw_tbl wsX12_payBands := goodIn_sub lw_l_wsX12_payBands (by decide +kernel)
set_option maxRecDepth 20000 in
theorem lw_g_wsX12_lose : GoodIn lw_tbl wsX12_lose := goodIn_sub lw_l_wsX12_lose (by decide +kernel)
set_option maxRecDepth 20000 in
theorem lw_g_wsX12_find : GoodIn lw_tbl wsX12_find := goodIn_sub lw_l_wsX12_find (by decide +kernel)
set_option maxRecDepth 20000 in
theorem lw_g_wsX12_undo : GoodIn lw_tbl wsX12_undo := goodIn_sub lw_l_wsX12_undo (by decide +kernel)
set_option maxRecDepth 20000 in
theorem lw_g_wsX12_dateAt : GoodIn lw_tbl wsX12_dateAt := goodIn_sub lw_l_wsX12_dateAt (by decide +kernel)
set_option maxRecDepth 20000 in
theorem lw_g_wsX12_walk : GoodIn lw_tbl wsX12_walk := goodIn_sub lw_l_wsX12_walk (by decide +kernel)
set_option maxRecDepth 20000 in
theorem lw_g_wsX12_actAt : GoodIn lw_tbl wsX12_actAt := goodIn_sub lw_l_wsX12_actAt (by decide +kernel)
set_option maxRecDepth 20000 in
theorem lw_g_wsX12_acts : GoodIn lw_tbl wsX12_acts := goodIn_sub lw_l_wsX12_acts (by decide +kernel)
set_option maxRecDepth 20000 in
theorem lw_g_wsX12_firstIn : GoodIn lw_tbl wsX12_firstIn := goodIn_sub lw_l_wsX12_firstIn (by decide +kernel)
set_option maxRecDepth 20000 in
theorem lw_g_wsX12_clash : GoodIn lw_tbl wsX12_clash := goodIn_sub lw_l_wsX12_clash (by decide +kernel)
set_option maxRecDepth 20000 in
theorem lw_g_wsX12_clashes : GoodIn lw_tbl wsX12_clashes := goodIn_sub lw_l_wsX12_clashes (by decide +kernel)
set_option maxRecDepth 20000 in
theorem lw_g_wsX12_pleased : GoodIn lw_tbl wsX12_pleased := goodIn_sub lw_l_wsX12_pleased (by decide +kernel)
set_option maxRecDepth 20000 in
theorem lw_g_wsX12_evening : GoodIn lw_tbl wsX12_evening := goodIn_sub lw_l_wsX12_evening (by decide +kernel)
set_option maxRecDepth 20000 in
theorem lw_g_wsX12_eveningAct : GoodIn lw_tbl wsX12_eveningAct := goodIn_sub lw_l_wsX12_eveningAct (by decide +kernel)
set_option maxRecDepth 20000 in
theorem lw_g_wsX12_price : GoodIn lw_tbl wsX12_price := goodIn_sub lw_l_wsX12_price (by decide +kernel)
set_option maxRecDepth 20000 in
theorem lw_g_wsX12_listeners : GoodIn lw_tbl wsX12_listeners := goodIn_sub lw_l_wsX12_listeners (by decide +kernel)
set_option maxRecDepth 20000 in
theorem lw_g_wsX12_outBy : GoodIn lw_tbl wsX12_outBy := goodIn_sub lw_l_wsX12_outBy (by decide +kernel)
set_option maxRecDepth 20000 in
theorem lw_g_wsX12_cut : GoodIn lw_tbl wsX12_cut := goodIn_sub lw_l_wsX12_cut (by decide +kernel)
set_option maxRecDepth 20000 in
theorem lw_g_wsX12_line : GoodIn lw_tbl wsX12_line := goodIn_sub lw_l_wsX12_line (by decide +kernel)
set_option maxRecDepth 20000 in
theorem lw_g_wsX12_front : GoodIn lw_tbl wsX12_front := goodIn_sub lw_l_wsX12_front (by decide +kernel)
set_option maxRecDepth 20000 in
theorem lw_g_wsX12_waitOf : GoodIn lw_tbl wsX12_waitOf := goodIn_sub lw_l_wsX12_waitOf (by decide +kernel)
set_option maxRecDepth 20000 in
theorem lw_g_wsX12_waits : GoodIn lw_tbl wsX12_waits := goodIn_sub lw_l_wsX12_waits (by decide +kernel)
set_option maxRecDepth 20000 in
theorem lw_g_wsX12_served : GoodIn lw_tbl wsX12_served := goodIn_sub lw_l_wsX12_served (by decide +kernel)
set_option maxRecDepth 20000 in
theorem lw_g_wsX12_helpers : GoodIn lw_tbl wsX12_helpers := goodIn_sub lw_l_wsX12_helpers (by decide +kernel)
set_option maxRecDepth 20000 in
theorem lw_g_wsX12_proof : GoodIn lw_tbl wsX12_proof := goodIn_sub lw_l_wsX12_proof (by decide +kernel)
set_option maxRecDepth 20000 in
theorem lw_g_wsX12_cost : GoodIn lw_tbl wsX12_cost := goodIn_sub lw_l_wsX12_cost (by decide +kernel)
set_option maxRecDepth 20000 in
theorem lw_g_wsX12_isOn : GoodIn lw_tbl wsX12_isOn := goodIn_sub lw_l_wsX12_isOn (by decide +kernel)
set_option maxRecDepth 20000 in
theorem lw_g_wsX12_rain : GoodIn lw_tbl wsX12_rain := goodIn_sub lw_l_wsX12_rain (by decide +kernel)
set_option maxRecDepth 20000 in
theorem lw_g_wsX12_movedTo : GoodIn lw_tbl wsX12_movedTo := goodIn_sub lw_l_wsX12_movedTo (by decide +kernel)
set_option maxRecDepth 20000 in
theorem lw_g_wsX12_ticketAt : GoodIn lw_tbl wsX12_ticketAt := goodIn_sub lw_l_wsX12_ticketAt (by decide +kernel)
set_option maxRecDepth 20000 in
theorem lw_g_wsX12_balance : GoodIn lw_tbl wsX12_balance := goodIn_sub lw_l_wsX12_balance (by decide +kernel)
set_option maxRecDepth 20000 in
theorem lw_g_wsX12_lost : GoodIn lw_tbl wsX12_lost := goodIn_sub lw_l_wsX12_lost (by decide +kernel)
set_option maxRecDepth 20000 in
theorem lw_g_wsX12_meanEvening : GoodIn lw_tbl wsX12_meanEvening := goodIn_sub lw_l_wsX12_meanEvening (by decide +kernel)
set_option maxRecDepth 20000 in
theorem lw_g_wsX12_lineupShare : GoodIn lw_tbl wsX12_lineupShare := goodIn_sub lw_l_wsX12_lineupShare (by decide +kernel)
set_option maxRecDepth 20000 in
theorem lw_g_wsX12_checksum : GoodIn lw_tbl wsX12_checksum := goodIn_sub lw_l_wsX12_checksum (by decide +kernel)
set_option maxRecDepth 20000 in
theorem lw_g_wsX12_errors : GoodIn lw_tbl wsX12_errors := goodIn_sub lw_l_wsX12_errors (by decide +kernel)
set_option maxRecDepth 20000 in
theorem lw_g_wsX11_payBands : GoodIn lw_tbl wsX11_payBands := goodIn_sub lw_l_wsX11_payBands (by decide +kernel)
set_option maxRecDepth 20000 in
theorem lw_g_wsX11_acts : GoodIn lw_tbl wsX11_acts := goodIn_sub lw_l_wsX11_acts (by decide +kernel)
set_option maxRecDepth 20000 in
theorem lw_g_wsX11_clashes : GoodIn lw_tbl wsX11_clashes := goodIn_sub lw_l_wsX11_clashes (by decide +kernel)
set_option maxRecDepth 20000 in
theorem lw_g_wsX11_pleased : GoodIn lw_tbl wsX11_pleased := goodIn_sub lw_l_wsX11_pleased (by decide +kernel)
set_option maxRecDepth 20000 in
theorem lw_g_wsX11_outBy : GoodIn lw_tbl wsX11_outBy := goodIn_sub lw_l_wsX11_outBy (by decide +kernel)
set_option maxRecDepth 20000 in
theorem lw_g_wsX11_cut : GoodIn lw_tbl wsX11_cut := goodIn_sub lw_l_wsX11_cut (by decide +kernel)
set_option maxRecDepth 20000 in
theorem lw_g_wsX11_waits : GoodIn lw_tbl wsX11_waits := goodIn_sub lw_l_wsX11_waits (by decide +kernel)
set_option maxRecDepth 20000 in
theorem lw_g_wsX11_served : GoodIn lw_tbl wsX11_served := goodIn_sub lw_l_wsX11_served (by decide +kernel)
set_option maxRecDepth 20000 in
theorem lw_g_wsX11_proof : GoodIn lw_tbl wsX11_proof := goodIn_sub lw_l_wsX11_proof (by decide +kernel)
set_option maxRecDepth 20000 in
theorem lw_g_wsX11_cost : GoodIn lw_tbl wsX11_cost := goodIn_sub lw_l_wsX11_cost (by decide +kernel)
set_option maxRecDepth 20000 in
theorem lw_g_wsX11_lost : GoodIn lw_tbl wsX11_lost := goodIn_sub lw_l_wsX11_lost (by decide +kernel)
set_option maxRecDepth 20000 in
theorem lw_g_wsX11_lineupShare : GoodIn lw_tbl wsX11_lineupShare := goodIn_sub lw_l_wsX11_lineupShare (by decide +kernel)
set_option maxRecDepth 20000 in
theorem lw_g_wsX11_checksum : GoodIn lw_tbl wsX11_checksum := goodIn_sub lw_l_wsX11_checksum (by decide +kernel)
set_option maxRecDepth 20000 in
theorem lw_g_wsX11_errors : GoodIn lw_tbl wsX11_errors := goodIn_sub lw_l_wsX11_errors (by decide +kernel)
set_option maxRecDepth 20000 in
theorem lw_g_wsX11_init : GoodIn lw_tbl wsX11_init := goodIn_sub lw_l_wsX11_init (by decide +kernel)
set_option maxRecDepth 20000 in
theorem lw_g_wsX12_init : GoodIn lw_tbl wsX12_init := goodIn_sub lw_l_wsX12_init (by decide +kernel)
set_option maxRecDepth 20000 in
theorem lw_k_L_setDate : GoodIn lw_tbl (va_wsS RL 164 yL_setDate wsL_setDate) := goodIn_app (goodIn_sub (lqc lw_w1260 (lqc lw_w1261 (lqc lw_w1262 lqn))) (by decide +kernel)) lw_g_wsL_setDate
set_option maxRecDepth 20000 in
theorem lw_k_L_setOpen : GoodIn lw_tbl (va_wsS RL 173 yL_setOpen wsL_setOpen) := goodIn_app (goodIn_sub (lqc lw_w1263 (lqc lw_w1264 (lqc lw_w1262 lqn))) (by decide +kernel)) lw_g_wsL_setOpen
set_option maxRecDepth 20000 in
theorem lw_k_L_setWay : GoodIn lw_tbl (va_wsS RL 177 yL_setWay wsL_setWay) := goodIn_app (goodIn_sub (lqc lw_w1265 (lqc lw_w1266 (lqc lw_w1262 lqn))) (by decide +kernel)) lw_g_wsL_setWay
set_option maxRecDepth 20000 in
theorem lw_k_L_act : GoodIn lw_tbl (va_wsS RL 180 yL_act wsL_act) := goodIn_app (goodIn_sub (lqc lw_w1267 (lqc lw_w1268 (lqc lw_w1262 lqn))) (by decide +kernel)) lw_g_wsL_act
set_option maxRecDepth 20000 in
theorem lw_k_L_drop : GoodIn lw_tbl (va_wsS RL 184 yL_drop wsL_drop) := goodIn_app (goodIn_sub (lqc lw_w1269 (lqc lw_w1270 (lqc lw_w1262 lqn))) (by decide +kernel)) lw_g_wsL_drop
set_option maxRecDepth 20000 in
theorem lw_k_L_wish : GoodIn lw_tbl (va_wsS RL 188 yL_wish wsL_wish) := goodIn_app (goodIn_sub (lqc lw_w1271 (lqc lw_w1272 (lqc lw_w1262 lqn))) (by decide +kernel)) lw_g_wsL_wish
set_option maxRecDepth 20000 in
theorem lw_k_L_setGate : GoodIn lw_tbl (va_wsS RL 191 yL_setGate wsL_setGate) := goodIn_app (goodIn_sub (lqc lw_w1273 (lqc lw_w1274 (lqc lw_w1262 lqn))) (by decide +kernel)) lw_g_wsL_setGate
set_option maxRecDepth 20000 in
theorem lw_k_L_setReach : GoodIn lw_tbl (va_wsS RL 195 yL_setReach wsL_setReach) := goodIn_app (goodIn_sub (lqc lw_w1275 (lqc lw_w1276 (lqc lw_w1262 lqn))) (by decide +kernel)) lw_g_wsL_setReach
set_option maxRecDepth 20000 in
theorem lw_k_L_setCrowd : GoodIn lw_tbl (va_wsS RL 198 yL_setCrowd wsL_setCrowd) := goodIn_app (goodIn_sub (lqc lw_w1277 (lqc lw_w1278 (lqc lw_w1262 lqn))) (by decide +kernel)) lw_g_wsL_setCrowd
set_option maxRecDepth 20000 in
theorem lw_k_L_setServing : GoodIn lw_tbl (va_wsS RL 201 yL_setServing wsL_setServing) := goodIn_app (goodIn_sub (lqc lw_w1279 (lqc lw_w1280 (lqc lw_w1262 lqn))) (by decide +kernel)) lw_g_wsL_setServing
set_option maxRecDepth 20000 in
theorem lw_k_L_join : GoodIn lw_tbl (va_wsS RL 204 yL_join wsL_join) := goodIn_app (goodIn_sub (lqc lw_w1281 (lqc lw_w1282 (lqc lw_w1262 lqn))) (by decide +kernel)) lw_g_wsL_join
set_option maxRecDepth 20000 in
theorem lw_k_L_leave : GoodIn lw_tbl (va_wsS RL 207 yL_leave wsL_leave) := goodIn_app (goodIn_sub (lqc lw_w1283 (lqc lw_w1284 (lqc lw_w1262 lqn))) (by decide +kernel)) lw_g_wsL_leave
set_option maxRecDepth 20000 in
theorem lw_k_L_pass : GoodIn lw_tbl (va_wsS RL 210 yL_pass wsL_pass) := goodIn_app (goodIn_sub (lqc lw_w1285 (lqc lw_w1286 (lqc lw_w1262 lqn))) (by decide +kernel)) lw_g_wsL_pass
set_option maxRecDepth 20000 in
theorem lw_k_L_setNeed : GoodIn lw_tbl (va_wsS RL 213 yL_setNeed wsL_setNeed) := goodIn_app (goodIn_sub (lqc lw_w1287 (lqc lw_w1288 (lqc lw_w1262 lqn))) (by decide +kernel)) lw_g_wsL_setNeed
set_option maxRecDepth 20000 in
theorem lw_k_L_setShift : GoodIn lw_tbl (va_wsS RL 216 yL_setShift wsL_setShift) := goodIn_app (goodIn_sub (lqc lw_w1289 (lqc lw_w1290 (lqc lw_w1262 lqn))) (by decide +kernel)) lw_g_wsL_setShift
set_option maxRecDepth 20000 in
theorem lw_k_L_setLoad : GoodIn lw_tbl (va_wsS RL 219 yL_setLoad wsL_setLoad) := goodIn_app (goodIn_sub (lqc lw_w1291 (lqc lw_w1292 (lqc lw_w1262 lqn))) (by decide +kernel)) lw_g_wsL_setLoad
set_option maxRecDepth 20000 in
theorem lw_k_L_setGenerator : GoodIn lw_tbl (va_wsS RL 222 yL_setGenerator wsL_setGenerator) := goodIn_app (goodIn_sub (lqc lw_w1293 (lqc lw_w1294 (lqc lw_w1262 lqn))) (by decide +kernel)) lw_g_wsL_setGenerator
set_option maxRecDepth 20000 in
theorem lw_k_L_moveAll : GoodIn lw_tbl (va_wsS RL 226 yL_moveAll wsL_moveAll) := goodIn_app (goodIn_sub (lqc lw_w1295 (lqc lw_w1296 (lqc lw_w1262 lqn))) (by decide +kernel)) lw_g_wsL_moveAll
set_option maxRecDepth 20000 in
theorem lw_k_L_setPrice : GoodIn lw_tbl (va_wsS RL 230 yL_setPrice wsL_setPrice) := goodIn_app (goodIn_sub (lqc lw_w1297 (lqc lw_w1298 (lqc lw_w1262 lqn))) (by decide +kernel)) lw_g_wsL_setPrice
set_option maxRecDepth 20000 in
theorem lw_k_L_ticket : GoodIn lw_tbl (va_wsS RL 233 yL_ticket wsL_ticket) := goodIn_app (goodIn_sub (lqc lw_w1299 (lqc lw_w1300 (lqc lw_w1262 lqn))) (by decide +kernel)) lw_g_wsL_ticket
set_option maxRecDepth 20000 in
theorem lw_k_L_refund : GoodIn lw_tbl (va_wsS RL 236 yL_refund wsL_refund) := goodIn_app (goodIn_sub (lqc lw_w1301 (lqc lw_w1302 (lqc lw_w1262 lqn))) (by decide +kernel)) lw_g_wsL_refund
set_option maxRecDepth 20000 in
theorem lw_k_L_resell : GoodIn lw_tbl (va_wsS RL 239 yL_resell wsL_resell) := goodIn_app (goodIn_sub (lqc lw_w1303 (lqc lw_w1304 (lqc lw_w1262 lqn))) (by decide +kernel)) lw_g_wsL_resell
set_option maxRecDepth 20000 in
theorem lw_k_L_lose : GoodIn lw_tbl (va_wsS RL 246 yL_lose wsL_lose) := goodIn_app (goodIn_sub (lqc lw_w1305 (lqc lw_w1306 (lqc lw_w1262 lqn))) (by decide +kernel)) lw_g_wsL_lose
set_option maxRecDepth 20000 in
theorem lw_k_L_find : GoodIn lw_tbl (va_wsS RL 249 yL_find wsL_find) := goodIn_app (goodIn_sub (lqc lw_w1307 (lqc lw_w1308 (lqc lw_w1262 lqn))) (by decide +kernel)) lw_g_wsL_find
set_option maxRecDepth 20000 in
theorem lw_k_L_undo : GoodIn lw_tbl (va_wsS RL 252 yL_undo wsL_undo) := goodIn_app (goodIn_sub (lqc lw_w1309 (lqc lw_w1310 (lqc lw_w1262 lqn))) (by decide +kernel)) lw_g_wsL_undo
set_option maxRecDepth 20000 in
theorem lw_k_L_dateAt : GoodIn lw_tbl (va_wsS RL 255 yL_dateAt wsL_dateAt) := goodIn_app (goodIn_sub (lqc lw_w1311 (lqc lw_w1312 (lqc lw_w1262 lqn))) (by decide +kernel)) lw_g_wsL_dateAt
set_option maxRecDepth 20000 in
theorem lw_k_L_walk : GoodIn lw_tbl (va_wsS RL 258 yL_walk wsL_walk) := goodIn_app (goodIn_sub (lqc lw_w1313 (lqc lw_w1314 (lqc lw_w1262 lqn))) (by decide +kernel)) lw_g_wsL_walk
set_option maxRecDepth 20000 in
theorem lw_k_L_actAt : GoodIn lw_tbl (va_wsS RL 261 yL_actAt wsL_actAt) := goodIn_app (goodIn_sub (lqc lw_w1315 (lqc lw_w1316 (lqc lw_w1262 lqn))) (by decide +kernel)) lw_g_wsL_actAt
set_option maxRecDepth 20000 in
theorem lw_k_L_firstIn : GoodIn lw_tbl (va_wsS RL 268 yL_firstIn wsL_firstIn) := goodIn_app (goodIn_sub (lqc lw_w1317 (lqc lw_w1318 (lqc lw_w1262 lqn))) (by decide +kernel)) lw_g_wsL_firstIn
set_option maxRecDepth 20000 in
theorem lw_k_L_clash : GoodIn lw_tbl (va_wsS RL 271 yL_clash wsL_clash) := goodIn_app (goodIn_sub (lqc lw_w1319 (lqc lw_w1320 (lqc lw_w1262 lqn))) (by decide +kernel)) lw_g_wsL_clash
set_option maxRecDepth 20000 in
theorem lw_k_L_evening : GoodIn lw_tbl (va_wsS RL 283 yL_evening wsL_evening) := goodIn_app (goodIn_sub (lqc lw_w1321 (lqc lw_w1322 (lqc lw_w1262 lqn))) (by decide +kernel)) lw_g_wsL_evening
set_option maxRecDepth 20000 in
theorem lw_k_L_eveningAct : GoodIn lw_tbl (va_wsS RL 286 yL_eveningAct wsL_eveningAct) := goodIn_app (goodIn_sub (lqc lw_w1323 (lqc lw_w1324 (lqc lw_w1262 lqn))) (by decide +kernel)) lw_g_wsL_eveningAct
set_option maxRecDepth 20000 in
theorem lw_k_L_price : GoodIn lw_tbl (va_wsS RL 289 yL_price wsL_price) := goodIn_app (goodIn_sub (lqc lw_w1325 (lqc lw_w1326 (lqc lw_w1262 lqn))) (by decide +kernel)) lw_g_wsL_price
set_option maxRecDepth 20000 in
theorem lw_k_L_listeners : GoodIn lw_tbl (va_wsS RL 292 yL_listeners wsL_listeners) := goodIn_app (goodIn_sub (lqc lw_w1327 (lqc lw_w1328 (lqc lw_w1262 lqn))) (by decide +kernel)) lw_g_wsL_listeners
set_option maxRecDepth 20000 in
theorem lw_k_L_line : GoodIn lw_tbl (va_wsS RL 303 yL_line wsL_line) := goodIn_app (goodIn_sub (lqc lw_w1329 (lqc lw_w1330 (lqc lw_w1262 lqn))) (by decide +kernel)) lw_g_wsL_line
set_option maxRecDepth 20000 in
theorem lw_k_L_front : GoodIn lw_tbl (va_wsS RL 306 yL_front wsL_front) := goodIn_app (goodIn_sub (lqc lw_w1331 (lqc lw_w1332 (lqc lw_w1262 lqn))) (by decide +kernel)) lw_g_wsL_front
set_option maxRecDepth 20000 in
theorem lw_k_L_waitOf : GoodIn lw_tbl (va_wsS RL 309 yL_waitOf wsL_waitOf) := goodIn_app (goodIn_sub (lqc lw_w1333 (lqc lw_w1334 (lqc lw_w1262 lqn))) (by decide +kernel)) lw_g_wsL_waitOf
set_option maxRecDepth 20000 in
theorem lw_k_L_helpers : GoodIn lw_tbl (va_wsS RL 320 yL_helpers wsL_helpers) := goodIn_app (goodIn_sub (lqc lw_w1335 (lqc lw_w1336 (lqc lw_w1262 lqn))) (by decide +kernel)) lw_g_wsL_helpers
set_option maxRecDepth 20000 in
theorem lw_k_L_isOn : GoodIn lw_tbl (va_wsS RL 331 yL_isOn wsL_isOn) := goodIn_app (goodIn_sub (lqc lw_w1337 (lqc lw_w1338 (lqc lw_w1262 lqn))) (by decide +kernel)) lw_g_wsL_isOn
set_option maxRecDepth 20000 in
theorem lw_k_L_rain : GoodIn lw_tbl (va_wsS RL 334 yL_rain wsL_rain) := goodIn_app (goodIn_sub (lqc lw_w1339 (lqc lw_w1340 (lqc lw_w1262 lqn))) (by decide +kernel)) lw_g_wsL_rain
set_option maxRecDepth 20000 in
theorem lw_k_L_movedTo : GoodIn lw_tbl (va_wsS RL 337 yL_movedTo wsL_movedTo) := goodIn_app (goodIn_sub (lqc lw_w1341 (lqc lw_w1342 (lqc lw_w1262 lqn))) (by decide +kernel)) lw_g_wsL_movedTo
set_option maxRecDepth 20000 in
theorem lw_k_L_ticketAt : GoodIn lw_tbl (va_wsS RL 340 yL_ticketAt wsL_ticketAt) := goodIn_app (goodIn_sub (lqc lw_w1343 (lqc lw_w1344 (lqc lw_w1262 lqn))) (by decide +kernel)) lw_g_wsL_ticketAt
set_option maxRecDepth 20000 in
theorem lw_k_L_balance : GoodIn lw_tbl (va_wsS RL 343 yL_balance wsL_balance) := goodIn_app (goodIn_sub (lqc lw_w1345 (lqc lw_w1346 (lqc lw_w1262 lqn))) (by decide +kernel)) lw_g_wsL_balance
set_option maxRecDepth 20000 in
theorem lw_k_L_meanEvening : GoodIn lw_tbl (va_wsS RL 350 yL_meanEvening wsL_meanEvening) := goodIn_app (goodIn_sub (lqc lw_w1347 (lqc lw_w1348 (lqc lw_w1262 lqn))) (by decide +kernel)) lw_g_wsL_meanEvening
set_option maxRecDepth 20000 in
theorem lw_k_X12_setDate : GoodIn lw_tbl (wsV RL 169 RX12 yX12_setDate wsX12_setDate) := goodIn_app (goodIn_sub (lqc lw_w1349 (lqc lw_w1350 (lqc lw_w1351 (lqc lw_w767 lqn)))) (by decide +kernel)) lw_g_wsX12_setDate
set_option maxRecDepth 20000 in
theorem lw_k_X12_thrown : GoodIn lw_tbl (wsV RL 170 RX12 yX12_thrown wsX12_thrown) := goodIn_app (goodIn_sub (lqc lw_w1352 (lqc lw_w1353 (lqc lw_w1354 (lqc lw_w767 lqn)))) (by decide +kernel)) lw_g_wsX12_thrown
set_option maxRecDepth 20000 in
theorem lw_k_X12_setOpen : GoodIn lw_tbl (wsV RL 176 RX12 yX12_setOpen wsX12_setOpen) := goodIn_app (goodIn_sub (lqc lw_w1355 (lqc lw_w1356 (lqc lw_w1357 (lqc lw_w767 lqn)))) (by decide +kernel)) lw_g_wsX12_setOpen
set_option maxRecDepth 20000 in
theorem lw_k_X12_setWay : GoodIn lw_tbl (wsV RL 179 RX12 yX12_setWay wsX12_setWay) := goodIn_app (goodIn_sub (lqc lw_w1358 (lqc lw_w1359 (lqc lw_w1360 (lqc lw_w767 lqn)))) (by decide +kernel)) lw_g_wsX12_setWay
set_option maxRecDepth 20000 in
theorem lw_k_X12_act : GoodIn lw_tbl (wsV RL 183 RX12 yX12_act wsX12_act) := goodIn_app (goodIn_sub (lqc lw_w1361 (lqc lw_w1362 (lqc lw_w1363 (lqc lw_w767 lqn)))) (by decide +kernel)) lw_g_wsX12_act
set_option maxRecDepth 20000 in
theorem lw_k_X12_drop : GoodIn lw_tbl (wsV RL 187 RX12 yX12_drop wsX12_drop) := goodIn_app (goodIn_sub (lqc lw_w1364 (lqc lw_w1365 (lqc lw_w1366 (lqc lw_w767 lqn)))) (by decide +kernel)) lw_g_wsX12_drop
set_option maxRecDepth 20000 in
theorem lw_k_X12_wish : GoodIn lw_tbl (wsV RL 190 RX12 yX12_wish wsX12_wish) := goodIn_app (goodIn_sub (lqc lw_w1367 (lqc lw_w1368 (lqc lw_w1369 (lqc lw_w767 lqn)))) (by decide +kernel)) lw_g_wsX12_wish
set_option maxRecDepth 20000 in
theorem lw_k_X12_setGate : GoodIn lw_tbl (wsV RL 194 RX12 yX12_setGate wsX12_setGate) := goodIn_app (goodIn_sub (lqc lw_w1370 (lqc lw_w1371 (lqc lw_w1372 (lqc lw_w767 lqn)))) (by decide +kernel)) lw_g_wsX12_setGate
set_option maxRecDepth 20000 in
theorem lw_k_X12_setReach : GoodIn lw_tbl (wsV RL 197 RX12 yX12_setReach wsX12_setReach) := goodIn_app (goodIn_sub (lqc lw_w1373 (lqc lw_w1374 (lqc lw_w1375 (lqc lw_w767 lqn)))) (by decide +kernel)) lw_g_wsX12_setReach
set_option maxRecDepth 20000 in
theorem lw_k_X12_setCrowd : GoodIn lw_tbl (wsV RL 200 RX12 yX12_setCrowd wsX12_setCrowd) := goodIn_app (goodIn_sub (lqc lw_w1376 (lqc lw_w1377 (lqc lw_w1378 (lqc lw_w767 lqn)))) (by decide +kernel)) lw_g_wsX12_setCrowd
set_option maxRecDepth 20000 in
theorem lw_k_X12_setServing : GoodIn lw_tbl (wsV RL 203 RX12 yX12_setServing wsX12_setServing) := goodIn_app (goodIn_sub (lqc lw_w1379 (lqc lw_w1380 (lqc lw_w1381 (lqc lw_w767 lqn)))) (by decide +kernel)) lw_g_wsX12_setServing
set_option maxRecDepth 20000 in
theorem lw_k_X12_join : GoodIn lw_tbl (wsV RL 206 RX12 yX12_join wsX12_join) := goodIn_app (goodIn_sub (lqc lw_w1382 (lqc lw_w1383 (lqc lw_w1384 (lqc lw_w767 lqn)))) (by decide +kernel)) lw_g_wsX12_join
set_option maxRecDepth 20000 in
theorem lw_k_X12_leave : GoodIn lw_tbl (wsV RL 209 RX12 yX12_leave wsX12_leave) := goodIn_app (goodIn_sub (lqc lw_w1385 (lqc lw_w1386 (lqc lw_w1387 (lqc lw_w767 lqn)))) (by decide +kernel)) lw_g_wsX12_leave
set_option maxRecDepth 20000 in
theorem lw_k_X12_pass : GoodIn lw_tbl (wsV RL 212 RX12 yX12_pass wsX12_pass) := goodIn_app (goodIn_sub (lqc lw_w1388 (lqc lw_w1389 (lqc lw_w1390 (lqc lw_w767 lqn)))) (by decide +kernel)) lw_g_wsX12_pass
set_option maxRecDepth 20000 in
theorem lw_k_X12_setNeed : GoodIn lw_tbl (wsV RL 215 RX12 yX12_setNeed wsX12_setNeed) := goodIn_app (goodIn_sub (lqc lw_w1391 (lqc lw_w1392 (lqc lw_w1393 (lqc lw_w767 lqn)))) (by decide +kernel)) lw_g_wsX12_setNeed
set_option maxRecDepth 20000 in
theorem lw_k_X12_setShift : GoodIn lw_tbl (wsV RL 218 RX12 yX12_setShift wsX12_setShift) := goodIn_app (goodIn_sub (lqc lw_w1394 (lqc lw_w1395 (lqc lw_w1396 (lqc lw_w767 lqn)))) (by decide +kernel)) lw_g_wsX12_setShift
set_option maxRecDepth 20000 in
theorem lw_k_X12_setLoad : GoodIn lw_tbl (wsV RL 221 RX12 yX12_setLoad wsX12_setLoad) := goodIn_app (goodIn_sub (lqc lw_w1397 (lqc lw_w1398 (lqc lw_w1399 (lqc lw_w767 lqn)))) (by decide +kernel)) lw_g_wsX12_setLoad
set_option maxRecDepth 20000 in
theorem lw_k_X12_setGenerator : GoodIn lw_tbl (wsV RL 225 RX12 yX12_setGenerator wsX12_setGenerator) := goodIn_app (goodIn_sub (lqc lw_w1400 (lqc lw_w1401 (lqc lw_w1402 (lqc lw_w767 lqn)))) (by decide +kernel)) lw_g_wsX12_setGenerator
set_option maxRecDepth 20000 in
theorem lw_k_X12_moveAll : GoodIn lw_tbl (wsV RL 229 RX12 yX12_moveAll wsX12_moveAll) := goodIn_app (goodIn_sub (lqc lw_w1403 (lqc lw_w1404 (lqc lw_w1405 (lqc lw_w767 lqn)))) (by decide +kernel)) lw_g_wsX12_moveAll
set_option maxRecDepth 20000 in
theorem lw_k_X12_setPrice : GoodIn lw_tbl (wsV RL 232 RX12 yX12_setPrice wsX12_setPrice) := goodIn_app (goodIn_sub (lqc lw_w1406 (lqc lw_w1407 (lqc lw_w1408 (lqc lw_w767 lqn)))) (by decide +kernel)) lw_g_wsX12_setPrice
set_option maxRecDepth 20000 in
theorem lw_k_X12_ticket : GoodIn lw_tbl (wsV RL 235 RX12 yX12_ticket wsX12_ticket) := goodIn_app (goodIn_sub (lqc lw_w1409 (lqc lw_w1410 (lqc lw_w1411 (lqc lw_w767 lqn)))) (by decide +kernel)) lw_g_wsX12_ticket
set_option maxRecDepth 20000 in
theorem lw_k_X12_refund : GoodIn lw_tbl (wsV RL 238 RX12 yX12_refund wsX12_refund) := goodIn_app (goodIn_sub (lqc lw_w1412 (lqc lw_w1413 (lqc lw_w1414 (lqc lw_w767 lqn)))) (by decide +kernel)) lw_g_wsX12_refund
set_option maxRecDepth 20000 in
theorem lw_k_X12_resell : GoodIn lw_tbl (wsV RL 241 RX12 yX12_resell wsX12_resell) := goodIn_app (goodIn_sub (lqc lw_w1415 (lqc lw_w1416 (lqc lw_w1417 (lqc lw_w767 lqn)))) (by decide +kernel)) lw_g_wsX12_resell
set_option maxRecDepth 20000 in
theorem lw_k_X12_payBands : GoodIn lw_tbl (wsV RL 245 RX12 yX12_payBands wsX12_payBands) := goodIn_app (goodIn_sub (lqc lw_w1418 (lqc lw_w1419 (lqc lw_w1420 (lqc lw_w767 lqn)))) (by decide +kernel)) lw_g_wsX12_payBands
set_option maxRecDepth 20000 in
theorem lw_k_X12_lose : GoodIn lw_tbl (wsV RL 248 RX12 yX12_lose wsX12_lose) := goodIn_app (goodIn_sub (lqc lw_w1421 (lqc lw_w1422 (lqc lw_w1423 (lqc lw_w767 lqn)))) (by decide +kernel)) lw_g_wsX12_lose
set_option maxRecDepth 20000 in
theorem lw_k_X12_find : GoodIn lw_tbl (wsV RL 251 RX12 yX12_find wsX12_find) := goodIn_app (goodIn_sub (lqc lw_w1424 (lqc lw_w1425 (lqc lw_w1426 (lqc lw_w767 lqn)))) (by decide +kernel)) lw_g_wsX12_find
set_option maxRecDepth 20000 in
theorem lw_k_X12_undo : GoodIn lw_tbl (wsV RL 254 RX12 yX12_undo wsX12_undo) := goodIn_app (goodIn_sub (lqc lw_w1427 (lqc lw_w1428 (lqc lw_w1429 (lqc lw_w767 lqn)))) (by decide +kernel)) lw_g_wsX12_undo
set_option maxRecDepth 20000 in
theorem lw_k_X12_dateAt : GoodIn lw_tbl (wsV RL 257 RX12 yX12_dateAt wsX12_dateAt) := goodIn_app (goodIn_sub (lqc lw_w1430 (lqc lw_w1431 (lqc lw_w1432 (lqc lw_w767 lqn)))) (by decide +kernel)) lw_g_wsX12_dateAt
set_option maxRecDepth 20000 in
theorem lw_k_X12_walk : GoodIn lw_tbl (wsV RL 260 RX12 yX12_walk wsX12_walk) := goodIn_app (goodIn_sub (lqc lw_w1433 (lqc lw_w1434 (lqc lw_w1435 (lqc lw_w767 lqn)))) (by decide +kernel)) lw_g_wsX12_walk
set_option maxRecDepth 20000 in
theorem lw_k_X12_actAt : GoodIn lw_tbl (wsV RL 263 RX12 yX12_actAt wsX12_actAt) := goodIn_app (goodIn_sub (lqc lw_w1436 (lqc lw_w1437 (lqc lw_w1438 (lqc lw_w767 lqn)))) (by decide +kernel)) lw_g_wsX12_actAt
set_option maxRecDepth 20000 in
theorem lw_k_X12_acts : GoodIn lw_tbl (wsV RL 267 RX12 yX12_acts wsX12_acts) := goodIn_app (goodIn_sub (lqc lw_w1439 (lqc lw_w1440 (lqc lw_w1441 (lqc lw_w767 lqn)))) (by decide +kernel)) lw_g_wsX12_acts
set_option maxRecDepth 20000 in
theorem lw_k_X12_firstIn : GoodIn lw_tbl (wsV RL 270 RX12 yX12_firstIn wsX12_firstIn) := goodIn_app (goodIn_sub (lqc lw_w1442 (lqc lw_w1443 (lqc lw_w1444 (lqc lw_w767 lqn)))) (by decide +kernel)) lw_g_wsX12_firstIn
set_option maxRecDepth 20000 in
theorem lw_k_X12_clash : GoodIn lw_tbl (wsV RL 273 RX12 yX12_clash wsX12_clash) := goodIn_app (goodIn_sub (lqc lw_w1445 (lqc lw_w1446 (lqc lw_w1447 (lqc lw_w767 lqn)))) (by decide +kernel)) lw_g_wsX12_clash
set_option maxRecDepth 20000 in
theorem lw_k_X12_clashes : GoodIn lw_tbl (wsV RL 277 RX12 yX12_clashes wsX12_clashes) := goodIn_app (goodIn_sub (lqc lw_w1448 (lqc lw_w1449 (lqc lw_w1450 (lqc lw_w767 lqn)))) (by decide +kernel)) lw_g_wsX12_clashes
set_option maxRecDepth 20000 in
theorem lw_k_X12_pleased : GoodIn lw_tbl (wsV RL 282 RX12 yX12_pleased wsX12_pleased) := goodIn_app (goodIn_sub (lqc lw_w1451 (lqc lw_w1452 (lqc lw_w1453 (lqc lw_w767 lqn)))) (by decide +kernel)) lw_g_wsX12_pleased
set_option maxRecDepth 20000 in
theorem lw_k_X12_evening : GoodIn lw_tbl (wsV RL 285 RX12 yX12_evening wsX12_evening) := goodIn_app (goodIn_sub (lqc lw_w1454 (lqc lw_w1455 (lqc lw_w1456 (lqc lw_w767 lqn)))) (by decide +kernel)) lw_g_wsX12_evening
set_option maxRecDepth 20000 in
theorem lw_k_X12_eveningAct : GoodIn lw_tbl (wsV RL 288 RX12 yX12_eveningAct wsX12_eveningAct) := goodIn_app (goodIn_sub (lqc lw_w1457 (lqc lw_w1458 (lqc lw_w1459 (lqc lw_w767 lqn)))) (by decide +kernel)) lw_g_wsX12_eveningAct
set_option maxRecDepth 20000 in
theorem lw_k_X12_price : GoodIn lw_tbl (wsV RL 291 RX12 yX12_price wsX12_price) := goodIn_app (goodIn_sub (lqc lw_w1460 (lqc lw_w1461 (lqc lw_w1462 (lqc lw_w767 lqn)))) (by decide +kernel)) lw_g_wsX12_price
set_option maxRecDepth 20000 in
theorem lw_k_X12_listeners : GoodIn lw_tbl (wsV RL 294 RX12 yX12_listeners wsX12_listeners) := goodIn_app (goodIn_sub (lqc lw_w1463 (lqc lw_w1464 (lqc lw_w1465 (lqc lw_w767 lqn)))) (by decide +kernel)) lw_g_wsX12_listeners
set_option maxRecDepth 20000 in
theorem lw_k_X12_outBy : GoodIn lw_tbl (wsV RL 298 RX12 yX12_outBy wsX12_outBy) := goodIn_app (goodIn_sub (lqc lw_w1466 (lqc lw_w1467 (lqc lw_w1468 (lqc lw_w767 lqn)))) (by decide +kernel)) lw_g_wsX12_outBy
set_option maxRecDepth 20000 in
theorem lw_k_X12_cut : GoodIn lw_tbl (wsV RL 302 RX12 yX12_cut wsX12_cut) := goodIn_app (goodIn_sub (lqc lw_w1469 (lqc lw_w1470 (lqc lw_w1471 (lqc lw_w767 lqn)))) (by decide +kernel)) lw_g_wsX12_cut
set_option maxRecDepth 20000 in
theorem lw_k_X12_line : GoodIn lw_tbl (wsV RL 305 RX12 yX12_line wsX12_line) := goodIn_app (goodIn_sub (lqc lw_w1472 (lqc lw_w1473 (lqc lw_w1474 (lqc lw_w767 lqn)))) (by decide +kernel)) lw_g_wsX12_line
set_option maxRecDepth 20000 in
theorem lw_k_X12_front : GoodIn lw_tbl (wsV RL 308 RX12 yX12_front wsX12_front) := goodIn_app (goodIn_sub (lqc lw_w1475 (lqc lw_w1476 (lqc lw_w1477 (lqc lw_w767 lqn)))) (by decide +kernel)) lw_g_wsX12_front
set_option maxRecDepth 20000 in
theorem lw_k_X12_waitOf : GoodIn lw_tbl (wsV RL 311 RX12 yX12_waitOf wsX12_waitOf) := goodIn_app (goodIn_sub (lqc lw_w1478 (lqc lw_w1479 (lqc lw_w1480 (lqc lw_w767 lqn)))) (by decide +kernel)) lw_g_wsX12_waitOf
set_option maxRecDepth 20000 in
theorem lw_k_X12_waits : GoodIn lw_tbl (wsV RL 315 RX12 yX12_waits wsX12_waits) := goodIn_app (goodIn_sub (lqc lw_w1481 (lqc lw_w1482 (lqc lw_w1483 (lqc lw_w767 lqn)))) (by decide +kernel)) lw_g_wsX12_waits
set_option maxRecDepth 20000 in
theorem lw_k_X12_served : GoodIn lw_tbl (wsV RL 319 RX12 yX12_served wsX12_served) := goodIn_app (goodIn_sub (lqc lw_w1484 (lqc lw_w1485 (lqc lw_w1486 (lqc lw_w767 lqn)))) (by decide +kernel)) lw_g_wsX12_served
set_option maxRecDepth 20000 in
theorem lw_k_X12_helpers : GoodIn lw_tbl (wsV RL 322 RX12 yX12_helpers wsX12_helpers) := goodIn_app (goodIn_sub (lqc lw_w1487 (lqc lw_w1488 (lqc lw_w1489 (lqc lw_w767 lqn)))) (by decide +kernel)) lw_g_wsX12_helpers
set_option maxRecDepth 20000 in
theorem lw_k_X12_proof : GoodIn lw_tbl (wsV RL 326 RX12 yX12_proof wsX12_proof) := goodIn_app (goodIn_sub (lqc lw_w1490 (lqc lw_w1491 (lqc lw_w1492 (lqc lw_w767 lqn)))) (by decide +kernel)) lw_g_wsX12_proof
set_option maxRecDepth 20000 in
theorem lw_k_X12_cost : GoodIn lw_tbl (wsV RL 330 RX12 yX12_cost wsX12_cost) := goodIn_app (goodIn_sub (lqc lw_w1493 (lqc lw_w1494 (lqc lw_w1495 (lqc lw_w767 lqn)))) (by decide +kernel)) lw_g_wsX12_cost
set_option maxRecDepth 20000 in
theorem lw_k_X12_isOn : GoodIn lw_tbl (wsV RL 333 RX12 yX12_isOn wsX12_isOn) := goodIn_app (goodIn_sub (lqc lw_w1496 (lqc lw_w1497 (lqc lw_w1498 (lqc lw_w767 lqn)))) (by decide +kernel)) lw_g_wsX12_isOn
set_option maxRecDepth 20000 in
theorem lw_k_X12_rain : GoodIn lw_tbl (wsV RL 336 RX12 yX12_rain wsX12_rain) := goodIn_app (goodIn_sub (lqc lw_w1499 (lqc lw_w1500 (lqc lw_w1501 (lqc lw_w767 lqn)))) (by decide +kernel)) lw_g_wsX12_rain
set_option maxRecDepth 20000 in
theorem lw_k_X12_movedTo : GoodIn lw_tbl (wsV RL 339 RX12 yX12_movedTo wsX12_movedTo) := goodIn_app (goodIn_sub (lqc lw_w1502 (lqc lw_w1503 (lqc lw_w1504 (lqc lw_w767 lqn)))) (by decide +kernel)) lw_g_wsX12_movedTo
set_option maxRecDepth 20000 in
theorem lw_k_X12_ticketAt : GoodIn lw_tbl (wsV RL 342 RX12 yX12_ticketAt wsX12_ticketAt) := goodIn_app (goodIn_sub (lqc lw_w1505 (lqc lw_w1506 (lqc lw_w1507 (lqc lw_w767 lqn)))) (by decide +kernel)) lw_g_wsX12_ticketAt
set_option maxRecDepth 20000 in
theorem lw_k_X12_balance : GoodIn lw_tbl (wsV RL 345 RX12 yX12_balance wsX12_balance) := goodIn_app (goodIn_sub (lqc lw_w1508 (lqc lw_w1509 (lqc lw_w1510 (lqc lw_w767 lqn)))) (by decide +kernel)) lw_g_wsX12_balance
set_option maxRecDepth 20000 in
theorem lw_k_X12_lost : GoodIn lw_tbl (wsV RL 349 RX12 yX12_lost wsX12_lost) := goodIn_app (goodIn_sub (lqc lw_w1511 (lqc lw_w1512 (lqc lw_w1513 (lqc lw_w767 lqn)))) (by decide +kernel)) lw_g_wsX12_lost
set_option maxRecDepth 20000 in
theorem lw_k_X12_meanEvening : GoodIn lw_tbl (wsV RL 353 RX12 yX12_meanEvening wsX12_meanEvening) := goodIn_app (goodIn_sub (lqc lw_w1514 (lqc lw_w1515 (lqc lw_w1516 (lqc lw_w767 lqn)))) (by decide +kernel)) lw_g_wsX12_meanEvening
set_option maxRecDepth 20000 in
theorem lw_k_X12_lineupShare : GoodIn lw_tbl (wsV RL 358 RX12 yX12_lineupShare wsX12_lineupShare) := goodIn_app (goodIn_sub (lqc lw_w1517 (lqc lw_w1518 (lqc lw_w1519 (lqc lw_w767 lqn)))) (by decide +kernel)) lw_g_wsX12_lineupShare
set_option maxRecDepth 20000 in
theorem lw_k_X12_checksum : GoodIn lw_tbl (wsV RL 363 RX12 yX12_checksum wsX12_checksum) := goodIn_app (goodIn_sub (lqc lw_w1520 (lqc lw_w1521 (lqc lw_w1522 (lqc lw_w767 lqn)))) (by decide +kernel)) lw_g_wsX12_checksum
set_option maxRecDepth 20000 in
theorem lw_k_X12_errors : GoodIn lw_tbl (wsV RL 367 RX12 yX12_errors wsX12_errors) := goodIn_app (goodIn_sub (lqc lw_w1523 (lqc lw_w1524 (lqc lw_w1525 (lqc lw_w767 lqn)))) (by decide +kernel)) lw_g_wsX12_errors
set_option maxRecDepth 20000 in
theorem lw_k_X11_payBands : GoodIn lw_tbl (wsV RL 242 RX11 yX11_payBands wsX11_payBands) := goodIn_app (goodIn_sub (lqc lw_w1526 (lqc lw_w1527 (lqc lw_w1528 (lqc lw_w20 lqn)))) (by decide +kernel)) lw_g_wsX11_payBands
set_option maxRecDepth 20000 in
theorem lw_k_X11_acts : GoodIn lw_tbl (wsV RL 264 RX11 yX11_acts wsX11_acts) := goodIn_app (goodIn_sub (lqc lw_w1529 (lqc lw_w1530 (lqc lw_w1531 (lqc lw_w20 lqn)))) (by decide +kernel)) lw_g_wsX11_acts
set_option maxRecDepth 20000 in
theorem lw_k_X11_clashes : GoodIn lw_tbl (wsV RL 274 RX11 yX11_clashes wsX11_clashes) := goodIn_app (goodIn_sub (lqc lw_w1532 (lqc lw_w1533 (lqc lw_w1534 (lqc lw_w20 lqn)))) (by decide +kernel)) lw_g_wsX11_clashes
set_option maxRecDepth 20000 in
theorem lw_k_X11_pleased : GoodIn lw_tbl (wsV RL 278 RX11 yX11_pleased wsX11_pleased) := goodIn_app (goodIn_sub (lqc lw_w1535 (lqc lw_w1536 (lqc lw_w1537 (lqc lw_w20 lqn)))) (by decide +kernel)) lw_g_wsX11_pleased
set_option maxRecDepth 20000 in
theorem lw_k_X11_outBy : GoodIn lw_tbl (wsV RL 295 RX11 yX11_outBy wsX11_outBy) := goodIn_app (goodIn_sub (lqc lw_w1538 (lqc lw_w1539 (lqc lw_w1540 (lqc lw_w20 lqn)))) (by decide +kernel)) lw_g_wsX11_outBy
set_option maxRecDepth 20000 in
theorem lw_k_X11_cut : GoodIn lw_tbl (wsV RL 299 RX11 yX11_cut wsX11_cut) := goodIn_app (goodIn_sub (lqc lw_w1541 (lqc lw_w1542 (lqc lw_w1543 (lqc lw_w20 lqn)))) (by decide +kernel)) lw_g_wsX11_cut
set_option maxRecDepth 20000 in
theorem lw_k_X11_waits : GoodIn lw_tbl (wsV RL 312 RX11 yX11_waits wsX11_waits) := goodIn_app (goodIn_sub (lqc lw_w1544 (lqc lw_w1545 (lqc lw_w1546 (lqc lw_w20 lqn)))) (by decide +kernel)) lw_g_wsX11_waits
set_option maxRecDepth 20000 in
theorem lw_k_X11_served : GoodIn lw_tbl (wsV RL 316 RX11 yX11_served wsX11_served) := goodIn_app (goodIn_sub (lqc lw_w1547 (lqc lw_w1548 (lqc lw_w1549 (lqc lw_w20 lqn)))) (by decide +kernel)) lw_g_wsX11_served
set_option maxRecDepth 20000 in
theorem lw_k_X11_proof : GoodIn lw_tbl (wsV RL 323 RX11 yX11_proof wsX11_proof) := goodIn_app (goodIn_sub (lqc lw_w1550 (lqc lw_w1551 (lqc lw_w1552 (lqc lw_w20 lqn)))) (by decide +kernel)) lw_g_wsX11_proof
set_option maxRecDepth 20000 in
theorem lw_k_X11_cost : GoodIn lw_tbl (wsV RL 327 RX11 yX11_cost wsX11_cost) := goodIn_app (goodIn_sub (lqc lw_w1553 (lqc lw_w1554 (lqc lw_w1555 (lqc lw_w20 lqn)))) (by decide +kernel)) lw_g_wsX11_cost
set_option maxRecDepth 20000 in
theorem lw_k_X11_lost : GoodIn lw_tbl (wsV RL 346 RX11 yX11_lost wsX11_lost) := goodIn_app (goodIn_sub (lqc lw_w1556 (lqc lw_w1557 (lqc lw_w1558 (lqc lw_w20 lqn)))) (by decide +kernel)) lw_g_wsX11_lost
set_option maxRecDepth 20000 in
theorem lw_k_X11_lineupShare : GoodIn lw_tbl (wsV RL 354 RX11 yX11_lineupShare wsX11_lineupShare) := goodIn_app (goodIn_sub (lqc lw_w1559 (lqc lw_w1560 (lqc lw_w1561 (lqc lw_w20 lqn)))) (by decide +kernel)) lw_g_wsX11_lineupShare
set_option maxRecDepth 20000 in
theorem lw_k_X11_checksum : GoodIn lw_tbl (wsV RL 359 RX11 yX11_checksum wsX11_checksum) := goodIn_app (goodIn_sub (lqc lw_w1562 (lqc lw_w1563 (lqc lw_w1564 (lqc lw_w20 lqn)))) (by decide +kernel)) lw_g_wsX11_checksum
set_option maxRecDepth 20000 in
theorem lw_k_X11_errors : GoodIn lw_tbl (wsV RL 364 RX11 yX11_errors wsX11_errors) := goodIn_app (goodIn_sub (lqc lw_w1565 (lqc lw_w1566 (lqc lw_w1567 (lqc lw_w20 lqn)))) (by decide +kernel)) lw_g_wsX11_errors
