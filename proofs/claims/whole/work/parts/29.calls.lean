/-! the calls, both sides -/
theorem isDir1y {kd : AR} {d : Nat} (hd : d < 16) (h : kd d = 2) : fX1_isDirectory (nI d) kd = some 1 := by
  unfold fX1_isDirectory
  rw [ard_n d hd (by decide) rfl, if_pos h]
theorem isDir1n {kd : AR} {d : Nat} (hd : d < 16) (h : ¬ kd d = 2) : fX1_isDirectory (nI d) kd = some 0 := by
  unfold fX1_isDirectory
  rw [ard_n d hd (by decide) rfl, if_neg h]
theorem isFile1y {kd : AR} {d : Nat} (hd : d < 16) (h : kd d = 1) : fX1_isFile (nI d) kd = some 1 := by
  unfold fX1_isFile
  rw [ard_n d hd (by decide) rfl, if_pos h]
theorem isFile1n {kd : AR} {d : Nat} (hd : d < 16) (h : ¬ kd d = 1) : fX1_isFile (nI d) kd = some 0 := by
  unfold fX1_isFile
  rw [ard_n d hd (by decide) rfl, if_neg h]
theorem isDir3y {kd : AR} {d : Nat} (hd : d < 16) (h : kd d = 2) : fX3_isDir (nI d) kd = some 1 := by
  unfold fX3_isDir
  rw [ard_n d (by omega) (by decide) rfl, if_pos h]
theorem isDir3n {kd : AR} {d : Nat} (hd : d < 16) (h : ¬ kd d = 2) : fX3_isDir (nI d) kd = some 0 := by
  unfold fX3_isDir
  rw [ard_n d (by omega) (by decide) rfl, if_neg h]
theorem size1 {sz : AR} {d : Nat} (hd : d < 16) : fX1_size (nI d) sz = some (sz d) := by
  unfold fX1_size
  rw [ard_n d hd (by decide) rfl]
theorem links1 {lk : AR} {d : Nat} (hd : d < 16) : fX1_links (nI d) lk = some (lk d) := by
  unfold fX1_links
  rw [ard_n d hd (by decide) rfl]
theorem out3 {n : Nat} (hn : n < 2 ^ 31) {N : Int32} (hN : N = nI n) (x : Int32) : (fX3_out x N = some 1 ∧ (x < 0 ∨ N ≤ x)) ∨ ∃ d, d < n ∧ x = nI d ∧ fX3_out x N = some 0 := by
  subst hN
  unfold fX3_out
  rcases pk_ix x hn with h | h | ⟨j, h1, rfl⟩
  · left; rw [if_pos h]; exact ⟨rfl, Or.inl h⟩
  · left
    refine ⟨?_, Or.inr h⟩
    by_cases h0 : x < 0
    · rw [if_pos h0]
    · rw [if_neg h0, if_neg (Int32.not_lt.mpr h)]
  · right
    exact ⟨j, h1, rfl, by rw [if_neg (nI_pos (by omega)), if_pos (nI_lt h1 hn)]⟩
theorem rng16 (x : Int32) : (fX2_isNode x = some 0 ∧ fX3_out x 16 = some 1) ∨ ∃ d, d < 16 ∧ x = nI d ∧ fX2_isNode x = some 1 ∧ fX3_out x 16 = some 0 := by
  rcases out3 (n := 16) (by decide) (N := 16) rfl x with ⟨h1, h2⟩ | ⟨d, h1, rfl, h3⟩
  · left
    refine ⟨?_, h1⟩
    unfold fX2_isNode
    by_cases h0 : x < 0
    · rw [if_pos h0]
    · rcases h2 with h2 | h2
      · exact absurd h2 h0
      · rw [if_neg h0, if_pos h2]
  · right
    refine ⟨d, h1, rfl, ?_, h3⟩
    unfold fX2_isNode
    rw [if_neg (nI_pos (by omega)), if_neg (lt16 h1)]
theorem rng32 (x : Int32) : (fX2_isName x = some 0 ∧ fX3_out x 32 = some 1) ∨ ∃ d, d < 32 ∧ x = nI d ∧ fX2_isName x = some 1 ∧ fX3_out x 32 = some 0 := by
  rcases out3 (n := 32) (by decide) (N := 32) rfl x with ⟨h1, h2⟩ | ⟨d, h1, rfl, h3⟩
  · left
    refine ⟨?_, h1⟩
    unfold fX2_isName
    by_cases h0 : x < 0
    · rw [if_pos h0]
    · rcases h2 with h2 | h2
      · exact absurd h2 h0
      · rw [if_neg h0, if_pos h2]
  · right
    refine ⟨d, h1, rfl, ?_, h3⟩
    unfold fX2_isName
    rw [if_neg (nI_pos (by omega)), if_neg (lt32 h1)]
theorem bn9_id {A1 A2 A3 A4 A5 A6 A7 A8 A9 : Type} (o : Option (A1 × A2 × A3 × A4 × A5 × A6 × A7 × A8 × A9)) : (bn9 o fun a1 a2 a3 a4 a5 a6 a7 a8 a9 => some (a1, a2, a3, a4, a5, a6, a7, a8, a9)) = o := by
  cases o with
  | none => rfl
  | some y => rfl
theorem least_free {kd : AR} (h : ¬ ∀ i, i < 16 → ¬ kd i = 0) : ∃ f, f < 16 ∧ kd f = 0 ∧ ∀ i, i < f → ¬ kd i = 0 := by
  have hex : ∃ k, k < 16 ∧ kd k = 0 := by
    by_cases q : ∃ k, k < 16 ∧ kd k = 0
    · exact q
    · exact absurd (fun i hi e => q ⟨i, hi, e⟩) h
  obtain ⟨f, ⟨h1, h2⟩, h3⟩ := pk_least (fun k => k < 16 ∧ kd k = 0) hex
  exact ⟨f, h1, h2, fun i hi e => h3 i hi ⟨by omega, e⟩⟩
section CALLS
variable {lim kpt syn : Int32} {tk ts tl th tt tv uk us ul uh ut uv : AR} {ln : Int32} {rw_ : AR} {mlim mkpt msyn mcn : Int32} {mk ms mc me ch : AR}
theorem agree_same (I : Inv lim kpt syn tk ts tl th tt tv uk us ul uh ut uv ln rw_ mlim mkpt msyn mcn mk ms mc me ch) (r : Int32) : Agree (some (r, kpt, syn, tk, ts, tl, th, tt, tv, uk, us, ul, uh, ut, uv, ln, rw_)) (some (r, mkpt, msyn, mcn, mk, ms, mc, me, ch)) lim mlim := ⟨r, kpt, syn, tk, ts, tl, th, tt, tv, uk, us, ul, uh, ut, uv, ln, rw_, mkpt, msyn, mcn, mk, ms, mc, me, ch, rfl, rfl, I⟩
theorem Inv.rel (I : Inv lim kpt syn tk ts tl th tt tv uk us ul uh ut uv ln rw_ mlim mkpt msyn mcn mk ms mc me ch) : Rel tk ts tl th tt tv mk ms mc me := by
  obtain ⟨L, κ, c, Cn, a, R, -⟩ := I
  exact R
theorem att_no {K a b x y r : Int32} (ho : fX3_objection K a b x y mk ms me = some r) (hr : ¬ r = 0) : fX3_attempt K a b x y mlim mkpt msyn mcn mk ms mc me ch = some (r, mkpt, msyn, mcn, mk, ms, mc, me, ch) := by
  unfold fX3_attempt
  rw [bn1_s ho, if_neg hr]
theorem full8 {n : Nat} (h : n ≤ 8) : (8 : Int32) ≤ nI n ↔ n = 8 := by
  rw [show (8 : Int32) = nI 8 from rfl, nI_leI (by decide) (by omega)]
  omega
theorem eq8 {n : Nat} (h : n ≤ 8) : nI n = 8 ↔ n = 8 := by
  rw [show (8 : Int32) = nI 8 from rfl, nI_eq (by omega) (by decide)]
theorem nc16 {kd : AR} : nI (nc kd) = 16 ↔ ∀ i, i < 16 → ¬ kd i = 0 := by
  have hle : nc kd ≤ 16 := sumN_le (c := 1) (n := 16) (fun j _ => by show wN (kd j) ≤ 1; unfold wN; split <;> omega)
  rw [show (16 : Int32) = nI 16 from rfl, nI_eq (by omega) (by decide)]
  constructor
  · intro e i hi h0
    have := sumN_all (w := fun k => wN (kd k)) (n := 16) (fun j _ => by show wN (kd j) ≤ 1; unfold wN; split <;> omega) e i hi
    rw [wN_0 h0] at this
    omega
  · intro h
    have : nc kd = sumN (fun _ => 1) 16 := sumN_congr (fun k hk => wN_1 (h k hk))
    rw [this]
    rfl
/-- create, past the numbers -/
theorem call_create_in (I : Inv lim kpt syn tk ts tl th tt tv uk us ul uh ut uv ln rw_ mlim mkpt msyn mcn mk ms mc me ch) {d n : Nat} (hd : d < 16) (hn : n < 32) {x : Int32} (hx : x = 1 ∨ x = 2) :
    Agree (bn1 (fX1_isDirectory (nI d) tk) fun r21 => if r21 = 0 then (some (-2, kpt, syn, tk, ts, tl, th, tt, tv, uk, us, ul, uh, ut, uv, ln, rw_)) else (bn1 (fX1_target (nI d) (nI n) tt) fun r36 => if r36 = 0 then (bn1 (fX1_leastFreeNode tk) fun r49 => bn1 (fX1_size (nI d) ts) fun r59 => if 8 ≤ r59 then (some (-5, kpt, syn, tk, ts, tl, th, tt, tv, uk, us, ul, uh, ut, uv, ln, rw_)) else (if r49 = 0 then (some (-5, kpt, syn, tk, ts, tl, th, tt, tv, uk, us, ul, uh, ut, uv, ln, rw_)) else (bn1 (fX2_costOf 2 0) fun r77 => contC r49 r77 0 (nI d) (nI n) x 0 tk ts tl th tt tv rw_ (fX2_makesRoom r77 1 lim tk ts tl th tt tv kpt syn uk us ul uh ut uv ln)))) else (some (-3, kpt, syn, tk, ts, tl, th, tt, tv, uk, us, ul, uh, ut, uv, ln, rw_)))) (fX3_attempt 0 (nI d) (nI n) x 0 mlim mkpt msyn mcn mk ms mc me ch) lim mlim := by
  have R := I.rel
  have k1 : ∀ k, k < 16 → tk k = mk k := fun k h => (R.1 k h).1
  by_cases hD : tk d = 2
  · have hmd : mk d = 2 := by rw [← k1 d hd]; exact hD
    rw [bn1_s (isDir1y hd hD), if_neg (by decide), bn1_s (tgt hd hn)]
    by_cases hT : tt (32 * d + n) = 0
    · have hme := tg0 R (j := 32 * d + n) (by omega) hT
      have h5 := R.2.2.2.2.1 d hd hmd
      rw [if_pos hT]
      have hobj : fX3_objection 0 (nI d) (nI n) x 0 mk ms me = (if nI (ec me d) = 8 then some (-5) else if nI (nc mk) = 16 then some (-5) else some 0) := by
        unfold fX3_objection
        rw [if_pos rfl, bn1_s (isDir3y hd hmd), if_neg (by decide)]
        simp only [slet_n]
        rw [ard_n (32 * d + n) (by omega) (by decide) (ix32' d n), hme, if_pos (by decide), bn1_s (ec3 hd), bn1_s nodes3]
      by_cases hall : ∀ i, i < 16 → ¬ tk i = 0
      · rw [bn1_s (lfn_none hall), bn1_s (size1 hd)]
        have hall' : ∀ i, i < 16 → ¬ mk i = 0 := fun i hi => by rw [← k1 i hi]; exact hall i hi
        have hfull : fX3_objection 0 (nI d) (nI n) x 0 mk ms me = some (-5) := by
          rw [hobj]
          by_cases e : nI (ec me d) = 8
          · rw [if_pos e]
          · rw [if_neg e, if_pos (nc16.mpr hall')]
        rw [att_no hfull (by decide)]
        by_cases e : (8 : Int32) ≤ ts d
        · rw [if_pos e]; exact agree_same I _
        · rw [if_neg e, if_pos rfl]; exact agree_same I _
      · obtain ⟨f, f1, f2, f3⟩ := least_free hall
        have hf0 : 1 ≤ f := by
          by_cases q : f = 0
          · subst q
            rw [k1 0 (by decide), R.2.1] at f2
            exact absurd f2 (by decide)
          · omega
        rw [bn1_s (lfn f1 f2 f3), bn1_s (size1 hd), h5.1]
        have hnc : ¬ nI (nc mk) = 16 := fun e => nc16.mp e f f1 (by rw [← k1 f f1]; exact f2)
        by_cases e : ec me d = 8
        · rw [if_pos ((full8 h5.2).mpr e)]
          rw [if_pos ((eq8 h5.2).mpr e)] at hobj
          rw [att_no hobj (by decide)]
          exact agree_same I _
        · rw [if_neg (fun q => e ((full8 h5.2).mp q)), if_neg (nI_ne0 (by omega) (by omega)), bn1_s (show fX2_costOf 2 0 = some (nI 3) from rfl)]
          rw [if_neg (fun q => e ((eq8 h5.2).mp q)), if_neg hnc] at hobj
          refine commit I (Or.inl ⟨rfl, d, n, f, hd, hn, hf0, f1, rfl, rfl, hx, hD, hT, ⟨ec me d, by omega, h5.1⟩, f2, fun i a1 a2 => f3 i a2, rfl, rfl⟩) (Or.inr rfl) hobj ?_
          unfold fX3_cost
          rw [if_neg (by decide), if_neg (by decide), if_neg (by decide)]
          rfl
    · rw [if_neg hT]
      have hobj : fX3_objection 0 (nI d) (nI n) x 0 mk ms me = some (-3) := by
        unfold fX3_objection
        rw [if_pos rfl, bn1_s (isDir3y hd hmd), if_neg (by decide)]
        simp only [slet_n]
        rw [ard_n (32 * d + n) (by omega) (by decide) (ix32' d n), if_neg (fun q => hT ((R.tgme (by omega)).mpr q))]
      rw [att_no hobj (by decide)]
      exact agree_same I _
  · have hmd : ¬ mk d = 2 := by rw [← k1 d hd]; exact hD
    rw [bn1_s (isDir1n hd hD), if_pos rfl]
    have hobj : fX3_objection 0 (nI d) (nI n) x 0 mk ms me = some (-2) := by
      unfold fX3_objection
      rw [if_pos rfl, bn1_s (isDir3n hd hmd), if_pos rfl]
    rw [att_no hobj (by decide)]
    exact agree_same I _
theorem call_create (I : Inv lim kpt syn tk ts tl th tt tv uk us ul uh ut uv ln rw_ mlim mkpt msyn mcn mk ms mc me ch) (x1 x2 x3 : Int32) : Agree (fX2_create x1 x2 x3 lim kpt syn tk ts tl th tt tv uk us ul uh ut uv ln rw_) (fX3_create x1 x2 x3 mlim mkpt msyn mcn mk ms mc me ch) lim mlim := by
  unfold fX2_create fX3_create
  rcases rng16 x1 with ⟨h1, h2⟩ | ⟨d, hd, rfl, h1, h2⟩
  · rw [bn1_s h1, bn1_s h2, if_pos rfl, if_neg (by decide)]
    exact agree_same I _
  rcases rng32 x2 with ⟨g1, g2⟩ | ⟨n, hn, rfl, g1, g2⟩
  · rw [bn1_s h1, bn1_s h2, if_neg (by decide), if_pos rfl, bn1_s g1, bn1_s g2, if_pos rfl, if_neg (by decide)]
    exact agree_same I _
  rw [bn1_s h1, bn1_s h2, if_neg (by decide), if_pos rfl, bn1_s g1, bn1_s g2, if_neg (by decide), if_pos rfl, bn9_id, bn9_id]
  by_cases e : x3 = 0
  · rw [if_pos e]
    simp only [if_pos e]
    exact call_create_in I hd hn (Or.inl rfl)
  · rw [if_neg e]
    simp only [if_neg e]
    exact call_create_in I hd hn (Or.inr rfl)
end CALLS
