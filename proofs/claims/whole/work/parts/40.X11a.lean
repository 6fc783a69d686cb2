theorem hSX11_needPlace : yX11_needPlace.cls ≠ "java/lang/invoke/MethodHandle" ∧ yX11_needPlace.cls ≠ "java/lang/invoke/VarHandle" ∧ (parseMethodDescriptor yX11_needPlace.desc).map (fun d => d.parameters.length) = some 2 := by decide +kernel
theorem hVX11_needPlace : yX11_needPlace.cls = RX11 ∧ yX11_needPlace.cls ≠ "java/lang/invoke/MethodHandle" ∧ yX11_needPlace.cls ≠ "java/lang/invoke/VarHandle" ∧ (parseMethodDescriptor yX11_needPlace.desc).map (fun d => d.parameters.length) = some 2 := by decide +kernel
theorem xkX11_needPlace_436 : Cond.classLink RX11 436 "java/lang/IndexOutOfBoundsException" ∈ wsX11_needPlace := by decide +kernel
theorem xiX11_needPlace_436 : Cond.initialized "java/lang/IndexOutOfBoundsException" ∈ wsX11_needPlace := by decide +kernel
theorem xaX11_needPlace_440 : ∀ w ∈ (vx_atS RX11 440 "java/lang/IndexOutOfBoundsException" rj_exn).filter goodWord, w ∈ wsX11_needPlace := by decide +kernel
theorem xbX11_needPlace_440 : ∀ w ∈ (vx_atS RX11 440 "java/lang/IndexOutOfBoundsException" rj_exn).filter (fun w => !goodWord w), w ∈ Cond.castable "java/lang/IndexOutOfBoundsException" "java/lang/IndexOutOfBoundsException" :: rj_dc.map Cond.declares := by decide +kernel
theorem xgX11_needPlace_440 : ∀ w ∈ Cond.classLink RX11 436 "java/lang/IndexOutOfBoundsException" :: Cond.initialized "java/lang/IndexOutOfBoundsException" :: vx_atS RX11 440 "java/lang/IndexOutOfBoundsException" rj_exn, vx_ot w = true := by decide +kernel
def fX11_needPlace (μ : rj_M) (a0 : Int32) (a1 : Int32) : Option String := (if a0 < 0 then (some "java/lang/IndexOutOfBoundsException") else (if a0 < a1 then none else (some "java/lang/IndexOutOfBoundsException")))
set_option maxHeartbeats 4000000 in
set_option maxRecDepth 100000 in
theorem sX11_needPlace {g : rj_G} {ω : rj_W} (hω : rj_ok ω) (μ : rj_M) (a0 : Int32) (a1 : Int32)   : rj_Sp g yX11_needPlace wsX11_needPlace (rj_rm 6 1) [.int a0, .int a1] ω μ (rj_D (rj_ov (fX11_needPlace μ a0 a1)) ω μ) := by
  refine rj_of' (cc := cX11_needPlace) (nL := 2) (ret := none) (own := RX11) (l0 := [(0, .int a0), (1, .int a1)]) rfl (by decide +kernel) rfl (Nat.le_of_ble_eq_true rfl) rfl ?_
  refine rj_iload_n 0 dX11_needPlace_0 rfl rfl ?_
  refine rj_if_lt dX11_needPlace_1 rfl rfl (fun h1 => ?_) (fun h1 => ?_)
  · exact rj_throwW (cls := "java/lang/IndexOutOfBoundsException") (text := "there is no such number") dX11_needPlace_9 rfl dX11_needPlace_12 rfl dX11_needPlace_13 rfl dX11_needPlace_16 rfl dX11_needPlace_19 (by decide +kernel) xkX11_needPlace_436 xiX11_needPlace_436 (by decide +kernel) xaX11_needPlace_440 xbX11_needPlace_440 (by decide) xgX11_needPlace_440 (Nat.le_of_ble_eq_true rfl) (Nat.le_of_ble_eq_true rfl) (Nat.le_of_ble_eq_true rfl) ⟨(by unfold fX11_needPlace; rw [if_pos h1]; try rfl), rfl, rfl⟩
  · refine rj_iload_n 0 dX11_needPlace_4 rfl rfl ?_
    refine rj_iload_n 1 dX11_needPlace_5 rfl rfl ?_
    refine rj_icmp_lt dX11_needPlace_6 rfl rfl (fun h2 => ?_) (fun h2 => ?_)
    · exact rj_vret dX11_needPlace_20 rfl (Nat.le_of_ble_eq_true rfl) (Nat.le_of_ble_eq_true rfl) ⟨(by unfold fX11_needPlace; rw [if_neg h1]; rw [if_pos h2]; try rfl), rfl, rfl⟩
    · exact rj_throwW (cls := "java/lang/IndexOutOfBoundsException") (text := "there is no such number") dX11_needPlace_9 rfl dX11_needPlace_12 rfl dX11_needPlace_13 rfl dX11_needPlace_16 rfl dX11_needPlace_19 (by decide +kernel) xkX11_needPlace_436 xiX11_needPlace_436 (by decide +kernel) xaX11_needPlace_440 xbX11_needPlace_440 (by decide) xgX11_needPlace_440 (Nat.le_of_ble_eq_true rfl) (Nat.le_of_ble_eq_true rfl) (Nat.le_of_ble_eq_true rfl) ⟨(by unfold fX11_needPlace; rw [if_neg h1]; rw [if_neg h2]; try rfl), rfl, rfl⟩
theorem hSX11_needRange : yX11_needRange.cls ≠ "java/lang/invoke/MethodHandle" ∧ yX11_needRange.cls ≠ "java/lang/invoke/VarHandle" ∧ (parseMethodDescriptor yX11_needRange.desc).map (fun d => d.parameters.length) = some 3 := by decide +kernel
theorem hVX11_needRange : yX11_needRange.cls = RX11 ∧ yX11_needRange.cls ≠ "java/lang/invoke/MethodHandle" ∧ yX11_needRange.cls ≠ "java/lang/invoke/VarHandle" ∧ (parseMethodDescriptor yX11_needRange.desc).map (fun d => d.parameters.length) = some 3 := by decide +kernel
theorem xkX11_needRange_57 : Cond.classLink RX11 57 "java/lang/IllegalArgumentException" ∈ wsX11_needRange := by decide +kernel
theorem xiX11_needRange_57 : Cond.initialized "java/lang/IllegalArgumentException" ∈ wsX11_needRange := by decide +kernel
theorem xaX11_needRange_61 : ∀ w ∈ (vx_atS RX11 61 "java/lang/IllegalArgumentException" rj_exn).filter goodWord, w ∈ wsX11_needRange := by decide +kernel
theorem xbX11_needRange_61 : ∀ w ∈ (vx_atS RX11 61 "java/lang/IllegalArgumentException" rj_exn).filter (fun w => !goodWord w), w ∈ Cond.castable "java/lang/IllegalArgumentException" "java/lang/IllegalArgumentException" :: rj_dc.map Cond.declares := by decide +kernel
theorem xgX11_needRange_61 : ∀ w ∈ Cond.classLink RX11 57 "java/lang/IllegalArgumentException" :: Cond.initialized "java/lang/IllegalArgumentException" :: vx_atS RX11 61 "java/lang/IllegalArgumentException" rj_exn, vx_ot w = true := by decide +kernel
def fX11_needRange (μ : rj_M) (a0 : Int32) (a1 : Int32) (a2 : Int32) : Option String := (if a0 < a1 then (some "java/lang/IllegalArgumentException") else (if a0 ≤ a2 then none else (some "java/lang/IllegalArgumentException")))
set_option maxHeartbeats 4000000 in
set_option maxRecDepth 100000 in
theorem sX11_needRange {g : rj_G} {ω : rj_W} (hω : rj_ok ω) (μ : rj_M) (a0 : Int32) (a1 : Int32) (a2 : Int32)   : rj_Sp g yX11_needRange wsX11_needRange (rj_rm 6 1) [.int a0, .int a1, .int a2] ω μ (rj_D (rj_ov (fX11_needRange μ a0 a1 a2)) ω μ) := by
  refine rj_of' (cc := cX11_needRange) (nL := 3) (ret := none) (own := RX11) (l0 := [(0, .int a0), (1, .int a1), (2, .int a2)]) rfl (by decide +kernel) rfl (Nat.le_of_ble_eq_true rfl) rfl ?_
  refine rj_iload_n 0 dX11_needRange_0 rfl rfl ?_
  refine rj_iload_n 1 dX11_needRange_1 rfl rfl ?_
  refine rj_icmp_lt dX11_needRange_2 rfl rfl (fun h1 => ?_) (fun h1 => ?_)
  · exact rj_throwW (cls := "java/lang/IllegalArgumentException") (text := "a number is out of range") dX11_needRange_10 rfl dX11_needRange_13 rfl dX11_needRange_14 rfl dX11_needRange_17 rfl dX11_needRange_20 (by decide +kernel) xkX11_needRange_57 xiX11_needRange_57 (by decide +kernel) xaX11_needRange_61 xbX11_needRange_61 (by decide) xgX11_needRange_61 (Nat.le_of_ble_eq_true rfl) (Nat.le_of_ble_eq_true rfl) (Nat.le_of_ble_eq_true rfl) ⟨(by unfold fX11_needRange; rw [if_pos h1]; try rfl), rfl, rfl⟩
  · refine rj_iload_n 0 dX11_needRange_5 rfl rfl ?_
    refine rj_iload_n 2 dX11_needRange_6 rfl rfl ?_
    refine rj_icmp_le dX11_needRange_7 rfl rfl (fun h2 => ?_) (fun h2 => ?_)
    · exact rj_vret dX11_needRange_21 rfl (Nat.le_of_ble_eq_true rfl) (Nat.le_of_ble_eq_true rfl) ⟨(by unfold fX11_needRange; rw [if_neg h1]; rw [if_pos h2]; try rfl), rfl, rfl⟩
    · exact rj_throwW (cls := "java/lang/IllegalArgumentException") (text := "a number is out of range") dX11_needRange_10 rfl dX11_needRange_13 rfl dX11_needRange_14 rfl dX11_needRange_17 rfl dX11_needRange_20 (by decide +kernel) xkX11_needRange_57 xiX11_needRange_57 (by decide +kernel) xaX11_needRange_61 xbX11_needRange_61 (by decide) xgX11_needRange_61 (Nat.le_of_ble_eq_true rfl) (Nat.le_of_ble_eq_true rfl) (Nat.le_of_ble_eq_true rfl) ⟨(by unfold fX11_needRange; rw [if_neg h1]; rw [if_neg h2]; try rfl), rfl, rfl⟩
theorem hSX11_needOthers : yX11_needOthers.cls ≠ "java/lang/invoke/MethodHandle" ∧ yX11_needOthers.cls ≠ "java/lang/invoke/VarHandle" ∧ (parseMethodDescriptor yX11_needOthers.desc).map (fun d => d.parameters.length) = some 2 := by decide +kernel
theorem hVX11_needOthers : yX11_needOthers.cls = RX11 ∧ yX11_needOthers.cls ≠ "java/lang/invoke/MethodHandle" ∧ yX11_needOthers.cls ≠ "java/lang/invoke/VarHandle" ∧ (parseMethodDescriptor yX11_needOthers.desc).map (fun d => d.parameters.length) = some 2 := by decide +kernel
theorem xkX11_needOthers_57 : Cond.classLink RX11 57 "java/lang/IllegalArgumentException" ∈ wsX11_needOthers := by decide +kernel
theorem xiX11_needOthers_57 : Cond.initialized "java/lang/IllegalArgumentException" ∈ wsX11_needOthers := by decide +kernel
theorem xaX11_needOthers_61 : ∀ w ∈ (vx_atS RX11 61 "java/lang/IllegalArgumentException" rj_exn).filter goodWord, w ∈ wsX11_needOthers := by decide +kernel
theorem xbX11_needOthers_61 : ∀ w ∈ (vx_atS RX11 61 "java/lang/IllegalArgumentException" rj_exn).filter (fun w => !goodWord w), w ∈ Cond.castable "java/lang/IllegalArgumentException" "java/lang/IllegalArgumentException" :: rj_dc.map Cond.declares := by decide +kernel
theorem xgX11_needOthers_61 : ∀ w ∈ Cond.classLink RX11 57 "java/lang/IllegalArgumentException" :: Cond.initialized "java/lang/IllegalArgumentException" :: vx_atS RX11 61 "java/lang/IllegalArgumentException" rj_exn, vx_ot w = true := by decide +kernel
def fX11_needOthers (μ : rj_M) (a0 : Int32) (a1 : Int32) : Option String := (if a0 = a1 then (some "java/lang/IllegalArgumentException") else none)
set_option maxHeartbeats 4000000 in
set_option maxRecDepth 100000 in
theorem sX11_needOthers {g : rj_G} {ω : rj_W} (hω : rj_ok ω) (μ : rj_M) (a0 : Int32) (a1 : Int32)   : rj_Sp g yX11_needOthers wsX11_needOthers (rj_rm 6 1) [.int a0, .int a1] ω μ (rj_D (rj_ov (fX11_needOthers μ a0 a1)) ω μ) := by
  refine rj_of' (cc := cX11_needOthers) (nL := 2) (ret := none) (own := RX11) (l0 := [(0, .int a0), (1, .int a1)]) rfl (by decide +kernel) rfl (Nat.le_of_ble_eq_true rfl) rfl ?_
  refine rj_iload_n 0 dX11_needOthers_0 rfl rfl ?_
  refine rj_iload_n 1 dX11_needOthers_1 rfl rfl ?_
  refine rj_icmp_ne dX11_needOthers_2 rfl rfl (fun h1 => ?_) (fun h1 => ?_)
  · exact rj_vret dX11_needOthers_16 rfl (Nat.le_of_ble_eq_true rfl) (Nat.le_of_ble_eq_true rfl) ⟨(by unfold fX11_needOthers; rw [if_neg h1]; try rfl), rfl, rfl⟩
  · exact rj_throwW (cls := "java/lang/IllegalArgumentException") (text := "both are the same") dX11_needOthers_5 rfl dX11_needOthers_8 rfl dX11_needOthers_9 rfl dX11_needOthers_12 rfl dX11_needOthers_15 (by decide +kernel) xkX11_needOthers_57 xiX11_needOthers_57 (by decide +kernel) xaX11_needOthers_61 xbX11_needOthers_61 (by decide) xgX11_needOthers_61 (Nat.le_of_ble_eq_true rfl) (Nat.le_of_ble_eq_true rfl) (Nat.le_of_ble_eq_true rfl) ⟨(by unfold fX11_needOthers; rw [if_pos h1]; try rfl), rfl, rfl⟩
theorem hSX11_needAct : yX11_needAct.cls ≠ "java/lang/invoke/MethodHandle" ∧ yX11_needAct.cls ≠ "java/lang/invoke/VarHandle" ∧ (parseMethodDescriptor yX11_needAct.desc).map (fun d => d.parameters.length) = some 1 := by decide +kernel
theorem hVX11_needAct : yX11_needAct.cls = RX11 ∧ yX11_needAct.cls ≠ "java/lang/invoke/MethodHandle" ∧ yX11_needAct.cls ≠ "java/lang/invoke/VarHandle" ∧ (parseMethodDescriptor yX11_needAct.desc).map (fun d => d.parameters.length) = some 1 := by decide +kernel
theorem vX11_needAct_11 : ∀ w ∈ u_ws RX11 TX11 6, w ∈ wsX11_needAct := by decide +kernel
theorem kX11_needAct_12 : Cond.fieldLink RX11 12 (TX11 0).1 (TX11 0).2.1 (TX11 0).2.2.1 ∈ wsX11_needAct := by decide +kernel
theorem vX11_needAct_5 : ∀ w ∈ u_ws RX5 TX5 8, w ∈ wsX11_needAct := by decide +kernel
theorem kX11_needAct_26 : Cond.fieldLink RX11 26 (TX5 2).1 (TX5 2).2.1 (TX5 2).2.2.1 ∈ wsX11_needAct := by decide +kernel
theorem xkX11_needAct_436 : Cond.classLink RX11 436 "java/lang/IndexOutOfBoundsException" ∈ wsX11_needAct := by decide +kernel
theorem xiX11_needAct_436 : Cond.initialized "java/lang/IndexOutOfBoundsException" ∈ wsX11_needAct := by decide +kernel
theorem xaX11_needAct_440 : ∀ w ∈ (vx_atS RX11 440 "java/lang/IndexOutOfBoundsException" rj_exn).filter goodWord, w ∈ wsX11_needAct := by decide +kernel
theorem xbX11_needAct_440 : ∀ w ∈ (vx_atS RX11 440 "java/lang/IndexOutOfBoundsException" rj_exn).filter (fun w => !goodWord w), w ∈ Cond.castable "java/lang/IndexOutOfBoundsException" "java/lang/IndexOutOfBoundsException" :: rj_dc.map Cond.declares := by decide +kernel
theorem xgX11_needAct_440 : ∀ w ∈ Cond.classLink RX11 436 "java/lang/IndexOutOfBoundsException" :: Cond.initialized "java/lang/IndexOutOfBoundsException" :: vx_atS RX11 440 "java/lang/IndexOutOfBoundsException" rj_exn, vx_ot w = true := by decide +kernel
def fX11_needAct (μ : rj_M) (a0 : Int32) : Option String := (if (fX7_has μ a0) = 0 then (some "java/lang/IndexOutOfBoundsException") else none)
set_option maxHeartbeats 4000000 in
set_option maxRecDepth 100000 in
theorem sX11_needAct {g : rj_G} {ω : rj_W} (hω : rj_ok ω) (μ : rj_M) (a0 : Int32)   : rj_Sp g yX11_needAct wsX11_needAct (rj_rm 6 1) [.ref (ω.2.2 0), .int a0] ω μ (rj_D (rj_ov (fX11_needAct μ a0)) ω μ) := by
  refine rj_of' (cc := cX11_needAct) (nL := 2) (ret := none) (own := RX11) (l0 := [(0, .ref (ω.2.2 0)), (1, .int a0)]) rfl (by decide +kernel) rfl (Nat.le_of_ble_eq_true rfl) rfl ?_
  refine rj_aload_n 0 dX11_needAct_0 rfl rfl ?_
  refine rj_getR (C0 := RX11) (T := TX11) (N := 6) (j := 0) (r := 1) dX11_needAct_1 rfl vX11_needAct_11 rfl (rj_lt hω (k := 0) rfl) (rj_sh hω ly_0) (by decide) kX11_needAct_12 rfl ?_
  refine rj_getR (C0 := RX5) (T := TX5) (N := 8) (j := 2) (r := 8) dX11_needAct_4 rfl vX11_needAct_5 rfl (rj_lt hω (k := 1) rfl) (rj_sh hω ly_1) (by decide) kX11_needAct_26 rfl ?_
  refine rj_iload_n 1 dX11_needAct_7 rfl rfl ?_
  refine rj_cV (rest := []) (sX7_has (g := g) (ω := ω) hω μ a0   ) gX11_needAct_X7_has (rj_lt hω (k := 8) rfl) (rj_sh hω ly_8) rfl rfl hVX7_has ⟨Nat.le_of_ble_eq_true rfl, Nat.le_of_ble_eq_true rfl⟩ dX11_needAct_8 rfl rfl rfl (Nat.le_of_ble_eq_true rfl) rfl (Nat.le_of_ble_eq_true rfl) rfl ?_
  refine rj_if_ne dX11_needAct_11 rfl rfl (fun h1 => ?_) (fun h1 => ?_)
  · exact rj_vret dX11_needAct_25 rfl (Nat.le_of_ble_eq_true rfl) (Nat.le_of_ble_eq_true rfl) ⟨(by unfold fX11_needAct; rw [if_neg h1]; try rfl), rfl, rfl⟩
  · exact rj_throwW (cls := "java/lang/IndexOutOfBoundsException") (text := "there is no such act") dX11_needAct_14 rfl dX11_needAct_17 rfl dX11_needAct_18 rfl dX11_needAct_21 rfl dX11_needAct_24 (by decide +kernel) xkX11_needAct_436 xiX11_needAct_436 (by decide +kernel) xaX11_needAct_440 xbX11_needAct_440 (by decide) xgX11_needAct_440 (Nat.le_of_ble_eq_true rfl) (Nat.le_of_ble_eq_true rfl) (Nat.le_of_ble_eq_true rfl) ⟨(by unfold fX11_needAct; rw [if_pos h1]; try rfl), rfl, rfl⟩
theorem hSX11_needTicket : yX11_needTicket.cls ≠ "java/lang/invoke/MethodHandle" ∧ yX11_needTicket.cls ≠ "java/lang/invoke/VarHandle" ∧ (parseMethodDescriptor yX11_needTicket.desc).map (fun d => d.parameters.length) = some 2 := by decide +kernel
theorem hVX11_needTicket : yX11_needTicket.cls = RX11 ∧ yX11_needTicket.cls ≠ "java/lang/invoke/MethodHandle" ∧ yX11_needTicket.cls ≠ "java/lang/invoke/VarHandle" ∧ (parseMethodDescriptor yX11_needTicket.desc).map (fun d => d.parameters.length) = some 2 := by decide +kernel
theorem vX11_needTicket_11 : ∀ w ∈ u_ws RX11 TX11 6, w ∈ wsX11_needTicket := by decide +kernel
theorem kX11_needTicket_12 : Cond.fieldLink RX11 12 (TX11 0).1 (TX11 0).2.1 (TX11 0).2.2.1 ∈ wsX11_needTicket := by decide +kernel
theorem vX11_needTicket_5 : ∀ w ∈ u_ws RX5 TX5 8, w ∈ wsX11_needTicket := by decide +kernel
theorem kX11_needTicket_226 : Cond.fieldLink RX11 226 (TX5 7).1 (TX5 7).2.1 (TX5 7).2.2.1 ∈ wsX11_needTicket := by decide +kernel
theorem xkX11_needTicket_267 : Cond.classLink RX11 267 "java/util/NoSuchElementException" ∈ wsX11_needTicket := by decide +kernel
theorem xiX11_needTicket_267 : Cond.initialized "java/util/NoSuchElementException" ∈ wsX11_needTicket := by decide +kernel
theorem xaX11_needTicket_271 : ∀ w ∈ (vx_wdN).filter goodWord, w ∈ wsX11_needTicket := by decide +kernel
theorem xbX11_needTicket_271 : ∀ w ∈ (vx_wdN).filter (fun w => !goodWord w), w ∈ Cond.castable "java/util/NoSuchElementException" "java/util/NoSuchElementException" :: rj_dc.map Cond.declares := by decide +kernel
theorem xgX11_needTicket_271 : ∀ w ∈ Cond.classLink RX11 267 "java/util/NoSuchElementException" :: Cond.initialized "java/util/NoSuchElementException" :: vx_wdN, vx_ot w = true := by decide +kernel
def fX11_needTicket (μ : rj_M) (a0 : Int32) (a1 : Int32) : Option String := (if (fX8_hasTicket μ a0 a1) = 0 then (some "java/util/NoSuchElementException") else none)
set_option maxHeartbeats 4000000 in
set_option maxRecDepth 100000 in
theorem sX11_needTicket {g : rj_G} {ω : rj_W} (hω : rj_ok ω) (μ : rj_M) (a0 : Int32) (a1 : Int32)   : rj_Sp g yX11_needTicket wsX11_needTicket (rj_rm 6 1) [.ref (ω.2.2 0), .int a0, .int a1] ω μ (rj_D (rj_ov (fX11_needTicket μ a0 a1)) ω μ) := by
  refine rj_of' (cc := cX11_needTicket) (nL := 3) (ret := none) (own := RX11) (l0 := [(0, .ref (ω.2.2 0)), (1, .int a0), (2, .int a1)]) rfl (by decide +kernel) rfl (Nat.le_of_ble_eq_true rfl) rfl ?_
  refine rj_aload_n 0 dX11_needTicket_0 rfl rfl ?_
  refine rj_getR (C0 := RX11) (T := TX11) (N := 6) (j := 0) (r := 1) dX11_needTicket_1 rfl vX11_needTicket_11 rfl (rj_lt hω (k := 0) rfl) (rj_sh hω ly_0) (by decide) kX11_needTicket_12 rfl ?_
  refine rj_getR (C0 := RX5) (T := TX5) (N := 8) (j := 7) (r := 39) dX11_needTicket_4 rfl vX11_needTicket_5 rfl (rj_lt hω (k := 1) rfl) (rj_sh hω ly_1) (by decide) kX11_needTicket_226 rfl ?_
  refine rj_iload_n 1 dX11_needTicket_7 rfl rfl ?_
  refine rj_iload_n 2 dX11_needTicket_8 rfl rfl ?_
  refine rj_cV (rest := []) (sX8_hasTicket (g := g) (ω := ω) hω μ a0 a1   ) gX11_needTicket_X8_hasTicket (rj_lt hω (k := 39) rfl) (rj_sh hω ly_39) rfl rfl hVX8_hasTicket ⟨Nat.le_of_ble_eq_true rfl, Nat.le_of_ble_eq_true rfl⟩ dX11_needTicket_9 rfl rfl rfl (Nat.le_of_ble_eq_true rfl) rfl (Nat.le_of_ble_eq_true rfl) rfl ?_
  refine rj_if_ne dX11_needTicket_12 rfl rfl (fun h1 => ?_) (fun h1 => ?_)
  · exact rj_vret dX11_needTicket_26 rfl (Nat.le_of_ble_eq_true rfl) (Nat.le_of_ble_eq_true rfl) ⟨(by unfold fX11_needTicket; rw [if_neg h1]; try rfl), rfl, rfl⟩
  · exact rj_throwN (text := "the visitor has no ticket for this day") dX11_needTicket_15 rfl dX11_needTicket_18 rfl dX11_needTicket_19 rfl dX11_needTicket_22 rfl dX11_needTicket_25 (by decide +kernel) xkX11_needTicket_267 xiX11_needTicket_267 (by decide +kernel) xaX11_needTicket_271 xbX11_needTicket_271 (by decide) xgX11_needTicket_271 (Nat.le_of_ble_eq_true rfl) (Nat.le_of_ble_eq_true rfl) (Nat.le_of_ble_eq_true rfl) ⟨(by unfold fX11_needTicket; rw [if_pos h1]; try rfl), rfl, rfl⟩
theorem hSX11_needNoTicket : yX11_needNoTicket.cls ≠ "java/lang/invoke/MethodHandle" ∧ yX11_needNoTicket.cls ≠ "java/lang/invoke/VarHandle" ∧ (parseMethodDescriptor yX11_needNoTicket.desc).map (fun d => d.parameters.length) = some 2 := by decide +kernel
theorem hVX11_needNoTicket : yX11_needNoTicket.cls = RX11 ∧ yX11_needNoTicket.cls ≠ "java/lang/invoke/MethodHandle" ∧ yX11_needNoTicket.cls ≠ "java/lang/invoke/VarHandle" ∧ (parseMethodDescriptor yX11_needNoTicket.desc).map (fun d => d.parameters.length) = some 2 := by decide +kernel
theorem vX11_needNoTicket_11 : ∀ w ∈ u_ws RX11 TX11 6, w ∈ wsX11_needNoTicket := by decide +kernel
theorem kX11_needNoTicket_12 : Cond.fieldLink RX11 12 (TX11 0).1 (TX11 0).2.1 (TX11 0).2.2.1 ∈ wsX11_needNoTicket := by decide +kernel
theorem vX11_needNoTicket_5 : ∀ w ∈ u_ws RX5 TX5 8, w ∈ wsX11_needNoTicket := by decide +kernel
theorem kX11_needNoTicket_226 : Cond.fieldLink RX11 226 (TX5 7).1 (TX5 7).2.1 (TX5 7).2.2.1 ∈ wsX11_needNoTicket := by decide +kernel
theorem xkX11_needNoTicket_108 : Cond.classLink RX11 108 "java/lang/IllegalStateException" ∈ wsX11_needNoTicket := by decide +kernel
theorem xiX11_needNoTicket_108 : Cond.initialized "java/lang/IllegalStateException" ∈ wsX11_needNoTicket := by decide +kernel
theorem xaX11_needNoTicket_112 : ∀ w ∈ (vx_atS RX11 112 "java/lang/IllegalStateException" rj_exn).filter goodWord, w ∈ wsX11_needNoTicket := by decide +kernel
theorem xbX11_needNoTicket_112 : ∀ w ∈ (vx_atS RX11 112 "java/lang/IllegalStateException" rj_exn).filter (fun w => !goodWord w), w ∈ Cond.castable "java/lang/IllegalStateException" "java/lang/IllegalStateException" :: rj_dc.map Cond.declares := by decide +kernel
theorem xgX11_needNoTicket_112 : ∀ w ∈ Cond.classLink RX11 108 "java/lang/IllegalStateException" :: Cond.initialized "java/lang/IllegalStateException" :: vx_atS RX11 112 "java/lang/IllegalStateException" rj_exn, vx_ot w = true := by decide +kernel
def fX11_needNoTicket (μ : rj_M) (a0 : Int32) (a1 : Int32) : Option String := (if (fX8_hasTicket μ a0 a1) = 0 then none else (some "java/lang/IllegalStateException"))
set_option maxHeartbeats 4000000 in
set_option maxRecDepth 100000 in
theorem sX11_needNoTicket {g : rj_G} {ω : rj_W} (hω : rj_ok ω) (μ : rj_M) (a0 : Int32) (a1 : Int32)   : rj_Sp g yX11_needNoTicket wsX11_needNoTicket (rj_rm 6 1) [.ref (ω.2.2 0), .int a0, .int a1] ω μ (rj_D (rj_ov (fX11_needNoTicket μ a0 a1)) ω μ) := by
  refine rj_of' (cc := cX11_needNoTicket) (nL := 3) (ret := none) (own := RX11) (l0 := [(0, .ref (ω.2.2 0)), (1, .int a0), (2, .int a1)]) rfl (by decide +kernel) rfl (Nat.le_of_ble_eq_true rfl) rfl ?_
  refine rj_aload_n 0 dX11_needNoTicket_0 rfl rfl ?_
  refine rj_getR (C0 := RX11) (T := TX11) (N := 6) (j := 0) (r := 1) dX11_needNoTicket_1 rfl vX11_needNoTicket_11 rfl (rj_lt hω (k := 0) rfl) (rj_sh hω ly_0) (by decide) kX11_needNoTicket_12 rfl ?_
  refine rj_getR (C0 := RX5) (T := TX5) (N := 8) (j := 7) (r := 39) dX11_needNoTicket_4 rfl vX11_needNoTicket_5 rfl (rj_lt hω (k := 1) rfl) (rj_sh hω ly_1) (by decide) kX11_needNoTicket_226 rfl ?_
  refine rj_iload_n 1 dX11_needNoTicket_7 rfl rfl ?_
  refine rj_iload_n 2 dX11_needNoTicket_8 rfl rfl ?_
  refine rj_cV (rest := []) (sX8_hasTicket (g := g) (ω := ω) hω μ a0 a1   ) gX11_needNoTicket_X8_hasTicket (rj_lt hω (k := 39) rfl) (rj_sh hω ly_39) rfl rfl hVX8_hasTicket ⟨Nat.le_of_ble_eq_true rfl, Nat.le_of_ble_eq_true rfl⟩ dX11_needNoTicket_9 rfl rfl rfl (Nat.le_of_ble_eq_true rfl) rfl (Nat.le_of_ble_eq_true rfl) rfl ?_
  refine rj_if_eq dX11_needNoTicket_12 rfl rfl (fun h1 => ?_) (fun h1 => ?_)
  · exact rj_vret dX11_needNoTicket_26 rfl (Nat.le_of_ble_eq_true rfl) (Nat.le_of_ble_eq_true rfl) ⟨(by unfold fX11_needNoTicket; rw [if_pos h1]; try rfl), rfl, rfl⟩
  · exact rj_throwW (cls := "java/lang/IllegalStateException") (text := "the visitor has a ticket for this day") dX11_needNoTicket_15 rfl dX11_needNoTicket_18 rfl dX11_needNoTicket_19 rfl dX11_needNoTicket_22 rfl dX11_needNoTicket_25 (by decide +kernel) xkX11_needNoTicket_108 xiX11_needNoTicket_108 (by decide +kernel) xaX11_needNoTicket_112 xbX11_needNoTicket_112 (by decide) xgX11_needNoTicket_112 (Nat.le_of_ble_eq_true rfl) (Nat.le_of_ble_eq_true rfl) (Nat.le_of_ble_eq_true rfl) ⟨(by unfold fX11_needNoTicket; rw [if_neg h1]; try rfl), rfl, rfl⟩
theorem hSX11_holds : yX11_holds.cls ≠ "java/lang/invoke/MethodHandle" ∧ yX11_holds.cls ≠ "java/lang/invoke/VarHandle" ∧ (parseMethodDescriptor yX11_holds.desc).map (fun d => d.parameters.length) = some 1 := by decide +kernel
theorem hVX11_holds : yX11_holds.cls = RX11 ∧ yX11_holds.cls ≠ "java/lang/invoke/MethodHandle" ∧ yX11_holds.cls ≠ "java/lang/invoke/VarHandle" ∧ (parseMethodDescriptor yX11_holds.desc).map (fun d => d.parameters.length) = some 1 := by decide +kernel
def fX11_holds (μ : rj_M) (a0 : Int32) : Int32 := (if a0 = 0 then 1 else 0)
set_option maxHeartbeats 4000000 in
set_option maxRecDepth 100000 in
theorem sX11_holds {g : rj_G} {ω : rj_W} (hω : rj_ok ω) (μ : rj_M) (a0 : Int32)   : rj_Sp g yX11_holds wsX11_holds (rj_rm 0 0) [.int a0] ω μ (rj_D (.inl (some (.int (fX11_holds μ a0)))) ω μ) := by
  refine rj_of' (cc := cX11_holds) (nL := 1) (ret := (some .int)) (own := RX11) (l0 := [(0, .int a0)]) rfl (by decide +kernel) rfl (Nat.le_of_ble_eq_true rfl) rfl ?_
  refine rj_iload_n 0 dX11_holds_0 rfl rfl ?_
  refine rj_if_eq dX11_holds_1 rfl rfl (fun h1 => ?_) (fun h1 => ?_)
  · refine rj_iconst (v := 1) dX11_holds_8 rfl (by decide) ?_
    exact rj_iret dX11_holds_9 rfl (Nat.le_of_ble_eq_true rfl) (Nat.le_of_ble_eq_true rfl) ⟨(by unfold fX11_holds; rw [if_pos h1]; try rfl), rfl, rfl⟩
  · refine rj_iconst (v := 0) dX11_holds_4 rfl (by decide) ?_
    refine rj_goto dX11_holds_5 rfl ?_
    exact rj_iret dX11_holds_9 rfl (Nat.le_of_ble_eq_true rfl) (Nat.le_of_ble_eq_true rfl) ⟨(by unfold fX11_holds; rw [if_neg h1]; try rfl), rfl, rfl⟩
