section CALLS
variable {lim kpt syn : Int32} {tk ts tl th tt tv uk us ul uh ut uv : AR} {ln : Int32} {rw_ : AR} {mlim mkpt msyn mcn : Int32} {mk ms mc me ch : AR}
theorem lt8 {n : Nat} (h : n ≤ 8) : nI n < 8 ↔ ¬ n = 8 := by
  rw [show (8 : Int32) = nI 8 from rfl, nI_ltI (by omega) (by decide)]
  omega
theorem call_link (I : Inv lim kpt syn tk ts tl th tt tv uk us ul uh ut uv ln rw_ mlim mkpt msyn mcn mk ms mc me ch) (x1 x2 x3 : Int32) : Agree (fX2_link x1 x2 x3 lim kpt syn tk ts tl th tt tv uk us ul uh ut uv ln rw_) (fX3_link x1 x2 x3 mlim mkpt msyn mcn mk ms mc me ch) lim mlim := by
  unfold fX2_link fX3_link
  rcases rng16 x1 with ⟨h1, h2⟩ | ⟨d, hd, rfl, h1, h2⟩
  · rw [bn1_s h1, bn1_s h2, if_pos rfl, if_neg (by decide)]
    exact agree_same I _
  rcases rng32 x2 with ⟨g1, g2⟩ | ⟨n, hn, rfl, g1, g2⟩
  · rw [bn1_s h1, bn1_s h2, if_neg (by decide), if_pos rfl, bn1_s g1, bn1_s g2, if_pos rfl, if_neg (by decide)]
    exact agree_same I _
  rcases rng16 x3 with ⟨i1, i2⟩ | ⟨f, hf, rfl, i1, i2⟩
  · rw [bn1_s h1, bn1_s h2, if_neg (by decide), if_pos rfl, bn1_s g1, bn1_s g2, if_neg (by decide), if_pos rfl, bn1_s i1, bn1_s i2, if_pos rfl, if_neg (by decide)]
    exact agree_same I _
  rw [bn1_s h1, bn1_s h2, if_neg (by decide), if_pos rfl, bn1_s g1, bn1_s g2, if_neg (by decide), if_pos rfl, bn1_s i1, bn1_s i2, if_neg (by decide), if_pos rfl, bn9_id]
  have R := I.rel
  have k1 : ∀ k, k < 16 → tk k = mk k := fun k h => (R.1 k h).1
  by_cases hD : tk d = 2
  · have hmd : mk d = 2 := by rw [← k1 d hd]; exact hD
    rw [bn1_s (isDir1y hd hD), if_neg (by decide)]
    by_cases hF : tk f = 1
    · have hmf : mk f = 1 := by rw [← k1 f hf]; exact hF
      rw [bn1_s (isFile1y hf hF), if_neg (by decide), bn1_s (tgt hd hn)]
      by_cases hT : tt (32 * d + n) = 0
      · have hme := tg0 R (j := 32 * d + n) (by omega) hT
        have h5 := R.2.2.2.2.1 d hd hmd
        have hobj : fX3_objection 1 (nI d) (nI n) (nI f) 0 mk ms me = (if nI (ec me d) = 8 then some (-5) else some 0) := by
          unfold fX3_objection
          rw [if_neg (by decide), if_pos rfl, bn1_s (isDir3y hd hmd), if_neg (by decide), ard_n f (by omega) (by decide) rfl, if_pos hmf]
          simp only [slet_n]
          rw [ard_n (32 * d + n) (by omega) (by decide) (ix32' d n), hme, if_pos (by decide), bn1_s (ec3 hd)]
        rw [if_pos hT, bn1_s (size1 hd), h5.1]
        by_cases e : ec me d = 8
        · rw [if_neg (fun q => (lt8 h5.2).mp q e)]
          rw [if_pos ((eq8 h5.2).mpr e)] at hobj
          rw [att_no hobj (by decide)]
          exact agree_same I _
        · rw [if_pos ((lt8 h5.2).mpr e), bn1_s (show fX2_costOf 2 0 = some (nI 3) from rfl)]
          rw [if_neg (fun q => e ((eq8 h5.2).mp q))] at hobj
          refine commit (ans := 0) (g := 0) I (Or.inr (Or.inl ⟨rfl, d, n, f, hd, hn, hf, rfl, rfl, rfl, hD, hF, hT, ⟨ec me d, by omega, h5.1⟩, rfl, rfl⟩)) (Or.inr rfl) hobj ?_
          unfold fX3_cost
          rw [if_neg (by decide), if_neg (by decide), if_neg (by decide)]
          rfl
      · rw [if_neg hT]
        have hobj : fX3_objection 1 (nI d) (nI n) (nI f) 0 mk ms me = some (-3) := by
          unfold fX3_objection
          rw [if_neg (by decide), if_pos rfl, bn1_s (isDir3y hd hmd), if_neg (by decide), ard_n f (by omega) (by decide) rfl, if_pos hmf]
          simp only [slet_n]
          rw [ard_n (32 * d + n) (by omega) (by decide) (ix32' d n), if_neg (fun q => hT ((R.tgme (by omega)).mpr q))]
        rw [att_no hobj (by decide)]
        exact agree_same I _
    · have hmf : ¬ mk f = 1 := by rw [← k1 f hf]; exact hF
      rw [bn1_s (isFile1n hf hF), if_pos rfl]
      have hobj : fX3_objection 1 (nI d) (nI n) (nI f) 0 mk ms me = some (-2) := by
        unfold fX3_objection
        rw [if_neg (by decide), if_pos rfl, bn1_s (isDir3y hd hmd), if_neg (by decide), ard_n f (by omega) (by decide) rfl, if_neg hmf]
      rw [att_no hobj (by decide)]
      exact agree_same I _
  · have hmd : ¬ mk d = 2 := by rw [← k1 d hd]; exact hD
    rw [bn1_s (isDir1n hd hD), if_pos rfl]
    have hobj : fX3_objection 1 (nI d) (nI n) (nI f) 0 mk ms me = some (-2) := by
      unfold fX3_objection
      rw [if_neg (by decide), if_pos rfl, bn1_s (isDir3n hd hmd), if_pos rfl]
    rw [att_no hobj (by decide)]
    exact agree_same I _
/-- an entry that is there -/
theorem there (R : Rel tk ts tl th tt tv mk ms mc me) {j : Nat} (hj : j < 512) (h : ¬ tt j = 0) : ∃ i, 1 ≤ i ∧ i < 16 ∧ tt j = nI i ∧ me j = nI i ∧ ¬ mk i = 0 := by
  rcases R.2.2.1 j hj with ⟨a1, a2⟩ | ⟨i, a1, a2, a3, a4, a5, a6⟩
  · exact absurd a2 h
  · exact ⟨i, a1, a2, a4, a3, a5⟩
theorem call_remove_b77 (I : Inv lim kpt syn tk ts tl th tt tv uk us ul uh ut uv ln rw_ mlim mkpt msyn mcn mk ms mc me ch) {d n i : Nat} (hd : d < 16) (hn : n < 32) (hi1 : 1 ≤ i) (hi : i < 16) (hD : tk d = 2) (hT : tt (32 * d + n) = nI i) (hE : tk i = 2 → ts i = 0) (hobj : fX3_objection 2 (nI d) (nI n) 0 0 mk ms me = some 0) : Agree (fX2_remove_b77 lim (nI d) (nI n) (nI i) kpt syn tk ts tl th tt tv uk us ul uh ut uv ln rw_) (fX3_attempt 2 (nI d) (nI n) 0 0 mlim mkpt msyn mcn mk ms mc me ch) lim mlim := by
  have R := I.rel
  have k1 : ∀ k, k < 16 → tk k = mk k := fun k h => (R.1 k h).1
  have hme := tgn R (j := 32 * d + n) (by omega) hi1 hi hT
  have h7 := R.2.2.2.2.2.2.1 i hi
  have hle := lc_le (me := me) (i := i)
  have hlp := lc_pos (me := me) (j := 32 * d + n) (by omega) hme
  have hcost : fX3_cost 2 (nI d) (nI n) 0 mk me = if mk i = 1 then (if nI (lc me i) ≤ 1 then some 2 else some 3) else some 2 := by
    unfold fX3_cost
    rw [if_pos rfl]
    simp only [slet_n]
    rw [ard_n (32 * d + n) (by omega) (by decide) (ix32' d n), hme, ard_n i (by omega) (by decide) rfl, ard_n (32 * d + n) (by omega) (by decide) (ix32' d n), hme, bn1_s lc3]
    rfl
  unfold fX2_remove_b77
  rw [bn1_s (links1 hi), h7]
  by_cases hl : nI (lc me i) ≤ 1
  · rw [if_pos hl]
    unfold fX2_remove_b94
    rw [if_pos rfl]
    unfold fX2_remove_b106
    rw [bn1_s (show fX2_costOf 1 0 = some (nI 2) from rfl), if_pos rfl, bn1_s (blocks1 R.szC hi), slet_n]
    refine commit (ans := 0) I (Or.inr (Or.inr (Or.inl ⟨rfl, d, n, i, hd, hn, hi1, hi, rfl, rfl, hD, hT, hE, rfl, Or.inl ⟨by rw [h7]; exact hl, rfl⟩⟩))) (Or.inl rfl) hobj ?_
    rw [hcost, if_pos hl]
    split <;> rfl
  · rw [if_neg hl]
    unfold fX2_remove_b94
    rw [if_neg (by decide)]
    unfold fX2_remove_b106
    rw [bn1_s (show fX2_costOf 2 0 = some (nI 3) from rfl), if_neg (by decide)]
    have hmi : mk i = 1 := by
      rw [le1 (by omega)] at hl
      rcases (R.1 i hi).2 with q | q | q
      · exact absurd hme (R.none hi q (by omega))
      · exact q
      · have := (R.2.2.2.2.2.2.2.2.1 i hi1 hi q).1
        omega
    refine commit (ans := 0) I (Or.inr (Or.inr (Or.inl ⟨rfl, d, n, i, hd, hn, hi1, hi, rfl, rfl, hD, hT, hE, rfl, Or.inr ⟨by rw [h7]; exact hl, rfl⟩⟩))) (Or.inr rfl) hobj ?_
    rw [hcost, if_pos hmi, if_neg hl]
    rfl
theorem call_remove (I : Inv lim kpt syn tk ts tl th tt tv uk us ul uh ut uv ln rw_ mlim mkpt msyn mcn mk ms mc me ch) (x1 x2 : Int32) : Agree (fX2_remove x1 x2 lim kpt syn tk ts tl th tt tv uk us ul uh ut uv ln rw_) (fX3_remove x1 x2 mlim mkpt msyn mcn mk ms mc me ch) lim mlim := by
  unfold fX2_remove fX3_remove
  rcases rng16 x1 with ⟨h1, h2⟩ | ⟨d, hd, rfl, h1, h2⟩
  · rw [bn1_s h1, bn1_s h2, if_pos rfl, if_neg (by decide)]
    exact agree_same I _
  rcases rng32 x2 with ⟨g1, g2⟩ | ⟨n, hn, rfl, g1, g2⟩
  · rw [bn1_s h1, bn1_s h2, if_neg (by decide), if_pos rfl, bn1_s g1, bn1_s g2, if_pos rfl, if_neg (by decide)]
    exact agree_same I _
  rw [bn1_s h1, bn1_s h2, if_neg (by decide), if_pos rfl, bn1_s g1, bn1_s g2, if_neg (by decide), if_pos rfl, bn9_id]
  have R := I.rel
  have k1 : ∀ k, k < 16 → tk k = mk k := fun k h => (R.1 k h).1
  by_cases hD : tk d = 2
  · have hmd : mk d = 2 := by rw [← k1 d hd]; exact hD
    rw [bn1_s (isDir1y hd hD), if_neg (by decide), bn1_s (tgt hd hn)]
    by_cases hT : tt (32 * d + n) = 0
    · have hme := tg0 R (j := 32 * d + n) (by omega) hT
      rw [if_pos hT]
      have hobj : fX3_objection 2 (nI d) (nI n) 0 0 mk ms me = some (-2) := by
        unfold fX3_objection
        rw [if_neg (by decide), if_neg (by decide), if_pos rfl, bn1_s (isDir3y hd hmd), if_neg (by decide)]
        simp only [slet_n]
        rw [ard_n (32 * d + n) (by omega) (by decide) (ix32' d n), hme, if_neg (by decide)]
      rw [att_no hobj (by decide)]
      exact agree_same I _
    · obtain ⟨i, hi1, hi, t1, t2, t3⟩ := there R (j := 32 * d + n) (by omega) hT
      rw [if_neg hT, bn1_s (tgt hd hn), t1]
      have hobj : fX3_objection 2 (nI d) (nI n) 0 0 mk ms me = (bn1 (fX3_isDir (nI i) mk) fun r179 => if r179 = 0 then (some 0) else (bn1 (fX3_entryCount (nI i) me) fun r197 => if r197 ≤ 0 then (some 0) else (some (-4)))) := by
        unfold fX3_objection
        rw [if_neg (by decide), if_neg (by decide), if_pos rfl, bn1_s (isDir3y hd hmd), if_neg (by decide)]
        simp only [slet_n]
        rw [ard_n (32 * d + n) (by omega) (by decide) (ix32' d n), t2, if_pos (nI_pos' (by omega)), ard_n (32 * d + n) (by omega) (by decide) (ix32' d n), t2, ard_n (32 * d + n) (by omega) (by decide) (ix32' d n), t2]
      by_cases hI : tk i = 2
      · have hmi : mk i = 2 := by rw [← k1 i hi]; exact hI
        have h5 := R.2.2.2.2.1 i hi hmi
        rw [bn1_s (isDir1y hi hI), if_neg (by decide), bn1_s (size1 hi), h5.1]
        rw [bn1_s (isDir3y hi hmi), if_neg (by decide), bn1_s (ec3 hi)] at hobj
        by_cases e : nI (ec me i) ≤ 0
        · rw [if_pos e]
          rw [if_pos e] at hobj
          have e0 : ec me i = 0 := by
            have := (nI_leI (a := ec me i) (b := 0) (by omega) (by decide)).mp e
            omega
          exact call_remove_b77 I hd hn hi1 hi hD t1 (fun _ => by rw [h5.1, e0]; rfl) hobj
        · rw [if_neg e]
          rw [if_neg e] at hobj
          rw [att_no hobj (by decide)]
          exact agree_same I _
      · have hmi : ¬ mk i = 2 := by rw [← k1 i hi]; exact hI
        rw [bn1_s (isDir1n hi hI), if_pos rfl]
        rw [bn1_s (isDir3n hi hmi), if_pos rfl] at hobj
        exact call_remove_b77 I hd hn hi1 hi hD t1 (fun q => absurd q hI) hobj
  · have hmd : ¬ mk d = 2 := by rw [← k1 d hd]; exact hD
    rw [bn1_s (isDir1n hd hD), if_pos rfl]
    have hobj : fX3_objection 2 (nI d) (nI n) 0 0 mk ms me = some (-2) := by
      unfold fX3_objection
      rw [if_neg (by decide), if_neg (by decide), if_pos rfl, bn1_s (isDir3n hd hmd), if_pos rfl]
    rw [att_no hobj (by decide)]
    exact agree_same I _
end CALLS
