/-! is the proof right, both sides -/
section zsg
variable {c r : rj_M} {S : Nat → Nat} {B : Nat → Int}
theorem zo_isProved (hc : zr_shft c 1 S) (hr : zr_row (r.1 396) S B) (ok : zo_shft S) : fX11_isProofRight c = fX12_isProved r ∧ (fX12_isProved r = 0 ∨ fX12_isProved r = 1) ∧ zo_rst r (mX12_isProved r) ∧ zo_cst c (mX11_isProofRight c) ∧ qX11_isProofRight c ∧ qX12_isProved r := by
  have hset : (zh_best (zs_d S) (S 411) 24 0 0).2 < 2 ^ 31 := by
    have h2 : (zh_best (zs_d S) (S 411) 24 0 0).2 + 1 ≤ 16777216 := (zh_best_le (d := zs_d S) (L := S 411) (M := 9) (fun k => by
      unfold zs_d
      split
      · rename_i hk
        exact ok.2.2 k hk
      · exact Nat.zero_le _) 24 0 0).2
    omega
  obtain ⟨s1, s2, s3, s4, s5⟩ := zc_starts hc ok
  have cst1 : zo_cst c (mX10_planStarts c) := ⟨fun k hk => s1 k (fun z => by subst z; cases hk), s2⟩
  have hc1 : zr_shft (mX10_planStarts c) 1 S := zr_shft_of hc (s1 _ (by decide)) (s1 _ (by decide))
  have hsum := zc_sumStarts s3
  obtain ⟨p1, p2, p3⟩ := zc_proof hc1 ok
  have cst2 : zo_cst (mX10_planStarts c) (mX10_neediestHours (mX10_planStarts c)) := ⟨fun k hk => p2 k (fun z => by subst z; cases hk), p3⟩
  have hc2 : zr_shft (mX10_neediestHours (mX10_planStarts c)) 1 S := zr_shft_of hc1 (p2 _ (by decide)) (p2 _ (by decide))
  have hneed := zc_needOf hc2 hset
  obtain ⟨q1, q2, q3, q4, q5⟩ := zq_proof hr ok
  have hr1 : zr_row ((mX12_proofNow r).1 396) S B := by rw [q2 396 (by decide)]; exact hr
  have rst1 : zo_rst r (mX12_proofNow r) := zo_rst_i (fun k hk _ => q2 k hk) (q3 3 (by decide) (by decide)) (q3 11 (by decide) (by decide)) q4
  have hh := zq_helpersNow hr1 ok
  obtain ⟨f1, f2, f3, f4⟩ := zq_shifts hr1 ok
  have rst2 : zo_rst (mX12_proofNow r) (mX12_findsShifts (mX12_proofNow r)) := zo_rst_i (fun k hk e => f1 k (by omega)) (congrFun (f1 395 (by decide)) 3) (congrFun (f1 395 (by decide)) 11) f2
  have hn := zq_needOf (μ := r) hr1 hset (f := bX12_isProved_9 r) (fun j s => by
    unfold bX12_isProved_9
    rw [q1])
  unfold fX11_isProofRight fX12_isProved mX12_isProved mX11_isProofRight qX11_isProofRight qX12_isProved mX12_helpersNow qX12_helpersNow
  rw [ite_self, ite_self, hsum, p1, hneed, hn, hh]
  refine ⟨?_, ?_, zo_rst_trans rst1 rst2, zo_cst_trans cst1 cst2, ⟨s5, trivial⟩, q5, ⟨f4, trivial⟩, trivial⟩
  · by_cases e : nI (zh_sum (zh_st (zs_d S) (S 411))) = nI (zh_need (zs_d S) (zh_best (zs_d S) (S 411) 24 0 0).2)
    · rw [if_pos e, if_pos e.symm]
    · rw [if_neg e, if_neg (fun z => e z.symm)]
  · split
    · exact .inr rfl
    · exact .inl rfl
end zsg
