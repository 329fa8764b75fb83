section CALLS
variable {lim kpt syn : Int32} {tk ts tl th tt tv uk us ul uh ut uv : AR} {ln : Int32} {rw_ : AR} {mlim mkpt msyn mcn : Int32} {mk ms mc me ch : AR}
theorem call_rename_b127 (I : Inv lim kpt syn tk ts tl th tt tv uk us ul uh ut uv ln rw_ mlim mkpt msyn mcn mk ms mc me ch) {d n t u i : Nat} (hd : d < 16) (hn : n < 32) (ht : t < 16) (hu : u < 32) (hi1 : 1 ≤ i) (hi : i < 16) (hD : tk d = 2) (hD' : tk t = 2) (hT : tt (32 * d + n) = nI i) (hT' : tt (32 * t + u) = 0) (hE : t ≠ d → ∃ e, e < 8 ∧ ts t = nI e) (hobj : fX3_objection 3 (nI d) (nI n) (nI t) (nI u) mk ms me = some 0) : Agree (fX2_rename_b127 lim (nI d) (nI n) (nI t) (nI u) kpt syn tk ts tl th tt tv uk us ul uh ut uv ln rw_) (fX3_attempt 3 (nI d) (nI n) (nI t) (nI u) mlim mkpt msyn mcn mk ms mc me ch) lim mlim := by
  have hok : OkC 3 (nI d) (nI n) (nI t) (nI u) 0 0 tk ts tl tt := Or.inr (Or.inr (Or.inr (Or.inl ⟨rfl, d, n, t, u, i, hd, hn, ht, hu, hi1, hi, rfl, rfl, rfl, rfl, hD, hD', hT, hT', hE, rfl, rfl⟩)))
  unfold fX2_rename_b127
  by_cases e : nI t = nI d
  · rw [if_pos e]
    unfold fX2_rename_b137
    rw [bn1_s (show fX2_costOf 1 0 = some (nI 2) from rfl)]
    refine commit I hok (Or.inl rfl) hobj ?_
    unfold fX3_cost
    rw [if_neg (by decide), if_pos rfl, if_pos e.symm]
    rfl
  · rw [if_neg e]
    unfold fX2_rename_b137
    rw [bn1_s (show fX2_costOf 2 0 = some (nI 3) from rfl)]
    refine commit I hok (Or.inr rfl) hobj ?_
    unfold fX3_cost
    rw [if_neg (by decide), if_pos rfl, if_neg (fun q => e q.symm)]
    rfl
theorem call_rename (I : Inv lim kpt syn tk ts tl th tt tv uk us ul uh ut uv ln rw_ mlim mkpt msyn mcn mk ms mc me ch) (x1 x2 x3 x4 : Int32) : Agree (fX2_rename x1 x2 x3 x4 lim kpt syn tk ts tl th tt tv uk us ul uh ut uv ln rw_) (fX3_rename x1 x2 x3 x4 mlim mkpt msyn mcn mk ms mc me ch) lim mlim := by
  unfold fX2_rename fX3_rename
  rcases rng16 x1 with ⟨h1, h2⟩ | ⟨d, hd, rfl, h1, h2⟩
  · rw [bn1_s h1, bn1_s h2, if_pos rfl, if_neg (by decide)]
    exact agree_same I _
  rcases rng32 x2 with ⟨g1, g2⟩ | ⟨n, hn, rfl, g1, g2⟩
  · rw [bn1_s h1, bn1_s h2, if_neg (by decide), if_pos rfl, bn1_s g1, bn1_s g2, if_pos rfl, if_neg (by decide)]
    exact agree_same I _
  rcases rng16 x3 with ⟨i1, i2⟩ | ⟨t, ht, rfl, i1, i2⟩
  · rw [bn1_s h1, bn1_s h2, if_neg (by decide), if_pos rfl, bn1_s g1, bn1_s g2, if_neg (by decide), if_pos rfl, bn1_s i1, bn1_s i2, if_pos rfl, if_neg (by decide)]
    exact agree_same I _
  rcases rng32 x4 with ⟨j1, j2⟩ | ⟨u, hu, rfl, j1, j2⟩
  · rw [bn1_s h1, bn1_s h2, if_neg (by decide), if_pos rfl, bn1_s g1, bn1_s g2, if_neg (by decide), if_pos rfl, bn1_s i1, bn1_s i2, if_neg (by decide), if_pos rfl, bn1_s j1, bn1_s j2, if_pos rfl, if_neg (by decide)]
    exact agree_same I _
  rw [bn1_s h1, bn1_s h2, if_neg (by decide), if_pos rfl, bn1_s g1, bn1_s g2, if_neg (by decide), if_pos rfl, bn1_s i1, bn1_s i2, if_neg (by decide), if_pos rfl, bn1_s j1, bn1_s j2, if_neg (by decide), if_pos rfl, bn9_id]
  have R := I.rel
  have k1 : ∀ k, k < 16 → tk k = mk k := fun k h => (R.1 k h).1
  by_cases hD : tk d = 2
  · have hmd : mk d = 2 := by rw [← k1 d hd]; exact hD
    rw [bn1_s (isDir1y hd hD), if_neg (by decide)]
    by_cases hD' : tk t = 2
    · have hmt : mk t = 2 := by rw [← k1 t ht]; exact hD'
      rw [bn1_s (isDir1y ht hD'), if_neg (by decide), bn1_s (tgt hd hn)]
      by_cases hT : tt (32 * d + n) = 0
      · have hme := tg0 R (j := 32 * d + n) (by omega) hT
        rw [if_pos hT]
        have hobj : fX3_objection 3 (nI d) (nI n) (nI t) (nI u) mk ms me = some (-2) := by
          unfold fX3_objection
          rw [if_neg (by decide), if_neg (by decide), if_neg (by decide), if_pos rfl, bn1_s (isDir3y hd hmd), if_neg (by decide), bn1_s (isDir3y ht hmt), if_neg (by decide)]
          simp only [slet_n]
          rw [ard_n (32 * d + n) (by omega) (by decide) (ix32' d n), hme, if_neg (by decide)]
        rw [att_no hobj (by decide)]
        exact agree_same I _
      · obtain ⟨i, hi1, hi, t1, t2, t3⟩ := there R (j := 32 * d + n) (by omega) hT
        rw [if_neg hT, bn1_s (tgt ht hu)]
        by_cases hT' : tt (32 * t + u) = 0
        · have hme' := tg0 R (j := 32 * t + u) (by omega) hT'
          have h5 := R.2.2.2.2.1 t ht hmt
          rw [if_pos hT', bn1_s (tgt hd hn), t1]
          have hobj : fX3_objection 3 (nI d) (nI n) (nI t) (nI u) mk ms me = (bn1 (fX3_isDir (nI i) mk) fun r275 => if r275 = 0 then (fX3_objection_b303 mk ms me (nI d) (nI t)) else (bn1 (fX3_liesIn (nI t) (nI i) me) fun r295 => if r295 = 0 then (fX3_objection_b303 mk ms me (nI d) (nI t)) else (some (-1)))) := by
            unfold fX3_objection
            rw [if_neg (by decide), if_neg (by decide), if_neg (by decide), if_pos rfl, bn1_s (isDir3y hd hmd), if_neg (by decide), bn1_s (isDir3y ht hmt), if_neg (by decide)]
            simp only [slet_n]
            rw [ard_n (32 * d + n) (by omega) (by decide) (ix32' d n), t2, if_pos (nI_pos' (by omega)), ard_n (32 * t + u) (by omega) (by decide) (ix32' t u), hme', if_pos (by decide), ard_n (32 * d + n) (by omega) (by decide) (ix32' d n), t2, ard_n (32 * d + n) (by omega) (by decide) (ix32' d n), t2]
          have hfin : ∀ (hz : fX3_objection 3 (nI d) (nI n) (nI t) (nI u) mk ms me = fX3_objection_b303 mk ms me (nI d) (nI t)), Agree (if nI t = nI d then (fX2_rename_b127 lim (nI d) (nI n) (nI t) (nI u) kpt syn tk ts tl th tt tv uk us ul uh ut uv ln rw_) else (bn1 (fX1_size (nI t) ts) fun r116 => if r116 < 8 then (fX2_rename_b127 lim (nI d) (nI n) (nI t) (nI u) kpt syn tk ts tl th tt tv uk us ul uh ut uv ln rw_) else (some (-5, kpt, syn, tk, ts, tl, th, tt, tv, uk, us, ul, uh, ut, uv, ln, rw_)))) (fX3_attempt 3 (nI d) (nI n) (nI t) (nI u) mlim mkpt msyn mcn mk ms mc me ch) lim mlim := by
            intro hz
            by_cases e : nI t = nI d
            · rw [if_pos e]
              have e' : t = d := nI_inj (by omega) (by omega) e
              refine call_rename_b127 I hd hn ht hu hi1 hi hD hD' t1 hT' (fun q => absurd e' q) ?_
              rw [hz]
              unfold fX3_objection_b303
              rw [if_pos e]
            · rw [if_neg e, bn1_s (size1 ht), h5.1]
              by_cases e8 : ec me t = 8
              · rw [if_neg (fun q => (lt8 h5.2).mp q e8)]
                have hz2 : fX3_objection 3 (nI d) (nI n) (nI t) (nI u) mk ms me = some (-5) := by
                  rw [hz]
                  unfold fX3_objection_b303
                  rw [if_neg e, bn1_s (ec3 ht), if_pos ((eq8 h5.2).mpr e8)]
                rw [att_no hz2 (by decide)]
                exact agree_same I _
              · rw [if_pos ((lt8 h5.2).mpr e8)]
                refine call_rename_b127 I hd hn ht hu hi1 hi hD hD' t1 hT' (fun _ => ⟨ec me t, by omega, h5.1⟩) ?_
                rw [hz]
                unfold fX3_objection_b303
                rw [if_neg e, bn1_s (ec3 ht), if_neg (fun q => e8 ((eq8 h5.2).mp q))]
          by_cases hI : mk i = 2
          · obtain ⟨r, l1, l2⟩ := lies R.up ⟨hi1, hi⟩ ht hmt
            rw [bn1_s l1]
            rw [bn1_s (isDir3y hi hI), if_neg (by decide), bn1_s l2] at hobj
            by_cases er : r = 0
            · rw [if_pos er]
              rw [if_pos er] at hobj
              exact hfin hobj
            · rw [if_neg er]
              rw [if_neg er] at hobj
              rw [att_no hobj (by decide)]
              exact agree_same I _
          · rw [bn1_s (liesF R.up hi hI ht hmt), if_pos rfl]
            rw [bn1_s (isDir3n hi hI), if_pos rfl] at hobj
            exact hfin hobj
        · rw [if_neg hT']
          have hobj : fX3_objection 3 (nI d) (nI n) (nI t) (nI u) mk ms me = some (-3) := by
            unfold fX3_objection
            rw [if_neg (by decide), if_neg (by decide), if_neg (by decide), if_pos rfl, bn1_s (isDir3y hd hmd), if_neg (by decide), bn1_s (isDir3y ht hmt), if_neg (by decide)]
            simp only [slet_n]
            rw [ard_n (32 * d + n) (by omega) (by decide) (ix32' d n), t2, if_pos (nI_pos' (by omega)), ard_n (32 * t + u) (by omega) (by decide) (ix32' t u), if_neg (fun q => hT' ((R.tgme (by omega)).mpr q))]
          rw [att_no hobj (by decide)]
          exact agree_same I _
    · have hmt : ¬ mk t = 2 := by rw [← k1 t ht]; exact hD'
      rw [bn1_s (isDir1n ht hD'), if_pos rfl]
      have hobj : fX3_objection 3 (nI d) (nI n) (nI t) (nI u) mk ms me = some (-2) := by
        unfold fX3_objection
        rw [if_neg (by decide), if_neg (by decide), if_neg (by decide), if_pos rfl, bn1_s (isDir3y hd hmd), if_neg (by decide), bn1_s (isDir3n ht hmt), if_pos rfl]
      rw [att_no hobj (by decide)]
      exact agree_same I _
  · have hmd : ¬ mk d = 2 := by rw [← k1 d hd]; exact hD
    rw [bn1_s (isDir1n hd hD), if_pos rfl]
    have hobj : fX3_objection 3 (nI d) (nI n) (nI t) (nI u) mk ms me = some (-2) := by
      unfold fX3_objection
      rw [if_neg (by decide), if_neg (by decide), if_neg (by decide), if_pos rfl, bn1_s (isDir3n hd hmd), if_pos rfl]
    rw [att_no hobj (by decide)]
    exact agree_same I _
theorem obj4 (R : Rel tk ts tl th tt tv mk ms mc me) {K a : Int32} {f p : Nat} {x y : Int32} (hf : f < 16) (hK : K = 4 ∨ K = 5) (ha : a = nI f) : fX3_objection K a (nI p) x y mk ms me = if mk f = 1 then (if nI p ≤ ms f then some 0 else some (-1)) else some (-2) := by
  subst ha
  unfold fX3_objection
  rcases hK with rfl | rfl
  · rw [if_neg (by decide), if_neg (by decide), if_neg (by decide), if_neg (by decide), ard_n f (by omega) (by decide) rfl, ard_n f (by omega) (by decide) rfl]
  · rw [if_neg (by decide), if_neg (by decide), if_neg (by decide), if_neg (by decide), ard_n f (by omega) (by decide) rfl, ard_n f (by omega) (by decide) rfl]
theorem call_write (I : Inv lim kpt syn tk ts tl th tt tv uk us ul uh ut uv ln rw_ mlim mkpt msyn mcn mk ms mc me ch) (x1 x2 x3 : Int32) : Agree (fX2_write x1 x2 x3 lim kpt syn tk ts tl th tt tv uk us ul uh ut uv ln rw_) (fX3_write x1 x2 x3 mlim mkpt msyn mcn mk ms mc me ch) lim mlim := by
  unfold fX2_write fX3_write
  rcases rng16 x1 with ⟨h1, h2⟩ | ⟨f, hf, rfl, h1, h2⟩
  · rw [bn1_s h1, bn1_s h2, if_pos rfl, if_neg (by decide)]
    exact agree_same I _
  rw [bn1_s h1, bn1_s h2, if_neg (by decide), if_pos rfl]
  rcases out3 (n := 8) (by decide) (N := 8) rfl x2 with ⟨g1, g2⟩ | ⟨p, hp, rfl, g1⟩
  · rw [bn1_s g1, if_neg (show ¬ (1 : Int32) = 0 by decide)]
    by_cases h0 : x2 < 0
    · rw [if_pos h0]; exact agree_same I _
    · rcases g2 with g2 | g2
      · exact absurd g2 h0
      · rw [if_neg h0, if_neg (Int32.not_lt.mpr g2)]; exact agree_same I _
  rw [bn1_s g1, if_pos rfl, bn9_id, if_neg (nI_pos (by omega)), if_pos (show nI p < 8 from nI_lt hp (by decide))]
  have R := I.rel
  have k1 : ∀ k, k < 16 → tk k = mk k := fun k h => (R.1 k h).1
  have hobj := obj4 (K := 4) (p := p) (x := x3) (y := 0) R hf (Or.inl rfl) rfl
  by_cases hF : tk f = 1
  · have hmf : mk f = 1 := by rw [← k1 f hf]; exact hF
    obtain ⟨e1, s, hs, es⟩ := R.2.2.2.1 f hf hmf
    rw [bn1_s (isFile1y hf hF), if_neg (by decide), bn1_s (size1 hf), e1, es]
    rw [if_pos hmf, es] at hobj
    by_cases hle : nI p ≤ nI s
    · have hps : p ≤ s := (nI_leI (by omega) (by omega)).mp hle
      rw [if_pos hle, bn1_s (show fX2_costOf 1 1 = some (nI 3) from rfl), bn1_s (size1 hf), e1, es]
      rw [if_pos hle] at hobj
      have hc : fX3_cost 4 (nI f) (nI p) x3 mk me = some (nI 3) := by
        unfold fX3_cost
        rw [if_neg (by decide), if_neg (by decide), if_neg (by decide)]
        rfl
      have hok : OkC 4 (nI f) (nI p) x3 0 0 (if p = s then 1 else 0) tk ts tl tt := Or.inr (Or.inr (Or.inr (Or.inr (Or.inl ⟨rfl, f, p, s, hf, hp, hps, hs, rfl, rfl, hF, e1.trans es, rfl, rfl⟩))))
      by_cases e : p = s
      · rw [if_pos (by rw [e])]
        rw [if_pos e] at hok
        exact commit I hok (Or.inr rfl) hobj hc
      · rw [if_neg (fun q => e (nI_inj (by omega) (by omega) q))]
        rw [if_neg e] at hok
        exact commit I hok (Or.inr rfl) hobj hc
    · rw [if_neg hle]
      rw [if_neg hle] at hobj
      rw [att_no hobj (by decide)]
      exact agree_same I _
  · have hmf : ¬ mk f = 1 := by rw [← k1 f hf]; exact hF
    rw [bn1_s (isFile1n hf hF), if_pos rfl]
    rw [if_neg hmf] at hobj
    rw [att_no hobj (by decide)]
    exact agree_same I _
theorem call_cut (I : Inv lim kpt syn tk ts tl th tt tv uk us ul uh ut uv ln rw_ mlim mkpt msyn mcn mk ms mc me ch) (x1 x2 : Int32) : Agree (fX2_cut x1 x2 lim kpt syn tk ts tl th tt tv uk us ul uh ut uv ln rw_) (fX3_cut x1 x2 mlim mkpt msyn mcn mk ms mc me ch) lim mlim := by
  unfold fX2_cut fX3_cut
  rcases rng16 x1 with ⟨h1, h2⟩ | ⟨f, hf, rfl, h1, h2⟩
  · rw [bn1_s h1, bn1_s h2, if_pos rfl, if_neg (by decide)]
    exact agree_same I _
  rw [bn1_s h1, bn1_s h2, if_neg (by decide), if_pos rfl]
  rcases out3 (n := 9) (by decide) (N := 9) rfl x2 with ⟨g1, g2⟩ | ⟨p, hp, rfl, g1⟩
  · rw [bn1_s g1, if_neg (show ¬ (1 : Int32) = 0 by decide)]
    by_cases h0 : x2 < 0
    · rw [if_pos h0]; exact agree_same I _
    · rcases g2 with g2 | g2
      · exact absurd g2 h0
      · rw [if_neg h0, if_neg]
        · exact agree_same I _
        · intro q
          have h9 : (9 : Int32) ≤ 8 := Int32.le_trans g2 q
          exact absurd h9 (by decide)
  rw [bn1_s g1, if_pos rfl, bn9_id, if_neg (nI_pos (by omega)), if_pos (show nI p ≤ 8 from nI_le (b := 8) (by omega) (by decide))]
  have R := I.rel
  have k1 : ∀ k, k < 16 → tk k = mk k := fun k h => (R.1 k h).1
  have hobj := obj4 (K := 5) (p := p) (x := 0) (y := 0) R hf (Or.inr rfl) rfl
  by_cases hF : tk f = 1
  · have hmf : mk f = 1 := by rw [← k1 f hf]; exact hF
    obtain ⟨e1, s, hs, es⟩ := R.2.2.2.1 f hf hmf
    rw [bn1_s (isFile1y hf hF), if_neg (by decide), bn1_s (size1 hf), e1, es]
    rw [if_pos hmf, es] at hobj
    by_cases hle : nI p ≤ nI s
    · have hps : p ≤ s := (nI_leI (by omega) (by omega)).mp hle
      rw [if_pos hle, bn1_s (show fX2_costOf 1 0 = some (nI 2) from rfl), bn1_s (size1 hf), e1, es, slet_n]
      rw [if_pos hle] at hobj
      refine commit (ans := 0) I (Or.inr (Or.inr (Or.inr (Or.inr (Or.inr ⟨rfl, f, p, s, hf, hps, hs, rfl, rfl, hF, e1.trans es, rfl, rfl⟩))))) (Or.inl rfl) hobj ?_
      unfold fX3_cost
      rw [if_neg (by decide), if_neg (by decide), if_pos rfl]
      rfl
    · rw [if_neg hle]
      rw [if_neg hle] at hobj
      rw [att_no hobj (by decide)]
      exact agree_same I _
  · have hmf : ¬ mk f = 1 := by rw [← k1 f hf]; exact hF
    rw [bn1_s (isFile1n hf hF), if_pos rfl]
    rw [if_neg hmf] at hobj
    rw [att_no hobj (by decide)]
    exact agree_same I _
end CALLS
