/-! ALL BALANCES TOGETHER are nothing, both sides -/
section zsj
variable {c r : rj_M} {S : Nat → Nat} {B : Nat → Int}
theorem zc_sumOfAll (hu : zr_purs c 1 S B) (hz : zB_sum B = 0) : fX8_sumOfAll c = 0 := by
  unfold fX8_sumOfAll
  have e0 : c.2.1 39 2 = Int64.ofInt (B 0) := hu.2.2.1
  have h1 : rj_fo (bX8_sumOfAll_7 c) 12 0 (c.2.1 39 2) = Int64.ofInt (rj_fo (fun j s => s + B (1 + j)) 12 0 (B 0)) := zf_rel (f := bX8_sumOfAll_7 c) (g := fun j s => s + B (1 + j)) (fun _ x y => x = Int64.ofInt y) 12 0 (c.2.1 39 2) (B 0) e0 (fun j x y _ hj hx => by
    subst hx
    unfold bX8_sumOfAll_7
    rw [nI_clamp (by omega), show c.2.1 42 j = Int64.ofInt (B (1 + j)) from hu.2.2.2.1 j (by omega), Int64.ofInt_add])
  rw [h1]
  have h2 : rj_fo (bX8_sumOfAll_30 c) 12 0 (Int64.ofInt (rj_fo (fun j s => s + B (1 + j)) 12 0 (B 0))) = Int64.ofInt (rj_fo (fun j s => s + B (13 + j)) 12 0 (rj_fo (fun j s => s + B (1 + j)) 12 0 (B 0))) := zf_rel (f := bX8_sumOfAll_30 c) (g := fun j s => s + B (13 + j)) (fun _ x y => x = Int64.ofInt y) 12 0 _ _ rfl (fun j x y _ hj hx => by
    subst hx
    unfold bX8_sumOfAll_30
    rw [nI_clamp (by omega), show c.2.1 43 j = Int64.ofInt (B (13 + j)) from hu.2.2.2.2 j (by omega), Int64.ofInt_add])
  rw [h2]
  have h3 : rj_fo (fun j s => s + B (13 + j)) 12 0 (rj_fo (fun j s => s + B (1 + j)) 12 0 (B 0)) = zB_sum B := rfl
  rw [h3, hz]
  rfl
theorem zq_sumOfAll {f : Nat → Int32 → Int32} (hr : zr_row (r.1 396) S B) (hz : zB_sum B = 0) (hf : ∀ j s, f j s = s + (r.1 396 (500 + (nI j)).toNatClampNeg)) : rj_fo f 25 0 0 = 0 := by
  have h1 : rj_fo f 25 0 0 = Int32.ofInt (rj_fo (fun j s => s + B j) 25 0 0) := zf_rel (f := f) (g := fun j s => s + B j) (fun _ x y => x = Int32.ofInt y) 25 0 0 0 rfl (fun j x y _ hj hx => by
    subst hx
    rw [hf, show (500 : Int32) + nI j = nI (500 + j) by rw [show (500 : Int32) = nI 500 from rfl, nI_add], nI_clamp (by omega), hr.2.2.1 j (by omega), Int32.ofInt_add])
  have h3 : rj_fo (fun j s => s + B j) 25 0 0 = 0 + B 0 + B 1 + B 2 + B 3 + B 4 + B 5 + B 6 + B 7 + B 8 + B 9 + B 10 + B 11 + B 12 + B 13 + B 14 + B 15 + B 16 + B 17 + B 18 + B 19 + B 20 + B 21 + B 22 + B 23 + B 24 := rfl
  have h4 : rj_fo (fun j s => s + B j) 25 0 0 = 0 := by
    rw [h3, Int.zero_add]
    exact hz
  rw [h1, h4]
  rfl
end zsj
