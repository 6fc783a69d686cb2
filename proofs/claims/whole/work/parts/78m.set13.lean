/-! join, both sides -/
noncomputable def zj_2 (K : rj_M) (a0 a1 : Int32) : rj_M := rj_pi K 396 (((331 + (13 * a0)) + 1) + (fX12_lineOf K a0)).toNatClampNeg a1
noncomputable def zj_3 (K : rj_M) (a0 : Int32) : rj_M := rj_pi K 396 (331 + (13 * a0)).toNatClampNeg ((K.1 396 (331 + (13 * a0)).toNatClampNeg) + 1)
noncomputable def zj_4 (K : rj_M) : rj_M := rj_pi K 396 (385 : Int32).toNatClampNeg ((K.1 396 (385 : Int32).toNatClampNeg) + 1)
noncomputable def zj_5 (K : rj_M) (a1 : Int32) : rj_M := rj_pi K 396 (373 + a1).toNatClampNeg (K.1 396 (385 : Int32).toNatClampNeg)
noncomputable def zj_1 (K : rj_M) (a0 : Int32) : rj_M := rj_pi K 396 (370 + a0).toNatClampNeg (K.1 396 (330 : Int32).toNatClampNeg)
noncomputable def zj (K : rj_M) (a0 a1 : Int32) : rj_M := zj_5 (zj_4 (zj_3 (zj_2 K a0 a1) a0)) a1
theorem zj_m {r : rj_M} {a0 a1 : Int32} : mX12_join r a0 a1 = if (fX12_isBar r a0) = 0 then (mX12_lacksF r) else (if (fX12_isVisitor r a1) = 0 then (mX12_lacksF r) else (if (fX12_barOf (mX12_lacksT r) a1) = (-1) then (if (fX12_lineOf (mX12_keeps (mX12_lacksT r)) a0) = 0 then zj (zj_1 (mX12_keeps (mX12_lacksT r)) a0) a0 a1 else zj (mX12_keeps (mX12_lacksT r)) a0 a1) else (mX12_noF (mX12_lacksT r) 2))) := rfl
theorem zj_f {r : rj_M} {a0 a1 : Int32} : fX12_join r a0 a1 = if (fX12_isBar r a0) = 0 then 0 else (if (fX12_isVisitor r a1) = 0 then 0 else (if (fX12_barOf (mX12_lacksT r) a1) = (-1) then (if (fX12_lineOf (mX12_keeps (mX12_lacksT r)) a0) = 0 then fX12_waitNow (zj (zj_1 (mX12_keeps (mX12_lacksT r)) a0) a0 a1) a1 else fX12_waitNow (zj (mX12_keeps (mX12_lacksT r)) a0 a1) a1) else 0)) := rfl
theorem zj_q {r : rj_M} {a0 a1 : Int32} : qX12_join r a0 a1 = ((((fX12_isBar r a0) = 0) → True) ∧ ((¬ ((fX12_isBar r a0) = 0)) → ((((fX12_isVisitor r a1) = 0) → True) ∧ ((¬ ((fX12_isVisitor r a1) = 0)) → (qX12_barOf (mX12_lacksT r) a1 ∧ ((((fX12_barOf (mX12_lacksT r) a1) = (-1)) → (qX12_keeps (mX12_lacksT r) ∧ ((((fX12_lineOf (mX12_keeps (mX12_lacksT r)) a0) = 0) → (vp_in (((331 + (13 * a0)) + 1) + (fX12_lineOf (zj_1 (mX12_keeps (mX12_lacksT r)) a0) a0)) 625 ∧ qX12_waitNow (zj (zj_1 (mX12_keeps (mX12_lacksT r)) a0) a0 a1) a1 ∧ True)) ∧ ((¬ ((fX12_lineOf (mX12_keeps (mX12_lacksT r)) a0) = 0)) → (vp_in (((331 + (13 * a0)) + 1) + (fX12_lineOf (mX12_keeps (mX12_lacksT r)) a0)) 625 ∧ qX12_waitNow (zj (mX12_keeps (mX12_lacksT r)) a0 a1) a1 ∧ True))))) ∧ ((¬ ((fX12_barOf (mX12_lacksT r) a1) = (-1))) → True))))))) := rfl
theorem zj_row {K : rj_M} {S : Nat → Nat} {B : Nat → Int} {b v : Nat} (h : zr_row (K.1 396) S B) (hb : b < 3) (hv : v < 12) (hl : S (331 + 13 * b) ≤ 11) : zr_row ((zj K (nI b) (nI v)).1 396) (zg_up (zg_up (zg_up (zg_up S (332 + 13 * b + S (331 + 13 * b)) v) (331 + 13 * b) (S (331 + 13 * b) + 1)) 385 (S 385 + 1)) (373 + v) (S 385 + 1)) B ∧ (∀ k, k ≠ 396 → (zj K (nI b) (nI v)).1 k = K.1 k) ∧ (zj K (nI b) (nI v)).2 = K.2 ∧ vp_in (((331 + (13 * nI b)) + 1) + (fX12_lineOf K (nI b))) 625 := by
  have q331 : (331 : Int32) + 13 * nI b = nI (331 + 13 * b) := by rw [show 13 * nI b = nI (13 * b) from pk_mul 13 b, show (331 : Int32) = nI 331 from rfl, nI_add]
  have q373 : (373 : Int32) + nI v = nI (373 + v) := by rw [show (373 : Int32) = nI 373 from rfl, nI_add]
  have hlo : fX12_lineOf K (nI b) = nI (S (331 + 13 * b)) := by
    unfold fX12_lineOf
    rw [q331, nI_clamp (by omega)]
    exact h.1 _ (by omega)
  have q332 : (331 : Int32) + 13 * nI b + 1 + fX12_lineOf K (nI b) = nI (332 + 13 * b + S (331 + 13 * b)) := by
    rw [hlo, q331, nI_1, nI_add]
    congr 1
    omega
  have r2 : zj_2 K (nI b) (nI v) = rj_pi K 396 (332 + 13 * b + S (331 + 13 * b)) (nI v) := by
    unfold zj_2
    rw [q332, nI_clamp (by omega)]
  have s2 : zr_row ((zj_2 K (nI b) (nI v)).1 396) (zg_up S (332 + 13 * b + S (331 + 13 * b)) v) B := by
    rw [r2]
    exact zr_pi2 h (by omega) rfl
  have n2 : ∀ k, k ≠ 396 → (zj_2 K (nI b) (nI v)).1 k = K.1 k := fun k hk => by rw [r2, zm_pi_ne hk]
  have m2 : (zj_2 K (nI b) (nI v)).2 = K.2 := by rw [r2]; rfl
  refine ⟨?_, ?_, ?_, by rw [q332]; exact vp_in_nI (by omega) (by decide)⟩
  all_goals unfold zj
  all_goals generalize zj_2 K (nI b) (nI v) = K2 at s2 n2 m2 ⊢
  · have r3 : zj_3 K2 (nI b) = rj_pi K2 396 (331 + 13 * b) (nI (S (331 + 13 * b) + 1)) := by
      unfold zj_3
      rw [q331, nI_clamp (by omega), s2.1 _ (by omega), zg_up_ne (by omega), nI_1]
    have s3 : zr_row ((zj_3 K2 (nI b)).1 396) (zg_up (zg_up S (332 + 13 * b + S (331 + 13 * b)) v) (331 + 13 * b) (S (331 + 13 * b) + 1)) B := by
      rw [r3]
      exact zr_pi2 s2 (by omega) rfl
    generalize zj_3 K2 (nI b) = K3 at s3 ⊢
    have r4 : zj_4 K3 = rj_pi K3 396 385 (nI (S 385 + 1)) := by
      unfold zj_4
      rw [show (385 : Int32).toNatClampNeg = 385 from rfl, s3.1 _ (by omega), zg_up_ne (by omega), zg_up_ne (by omega), nI_1]
    have s4 : zr_row ((zj_4 K3).1 396) (zg_up (zg_up (zg_up S (332 + 13 * b + S (331 + 13 * b)) v) (331 + 13 * b) (S (331 + 13 * b) + 1)) 385 (S 385 + 1)) B := by
      rw [r4]
      exact zr_pi2 s3 (by omega) rfl
    generalize zj_4 K3 = K4 at s4 ⊢
    unfold zj_5
    rw [q373, nI_clamp (by omega), show (385 : Int32).toNatClampNeg = 385 from rfl]
    exact zr_pi2 s4 (by omega) (by rw [s4.1 385 (by decide), zg_up_eq])
  · intro k hk
    unfold zj_5 zj_4 zj_3
    rw [zm_pi_ne hk, zm_pi_ne hk, zm_pi_ne hk]
    exact n2 k hk
  · unfold zj_5 zj_4 zj_3
    exact m2
