section CALLS
variable {lim kpt syn : Int32} {tk ts tl th tt tv uk us ul uh ut uv : AR} {ln : Int32} {rw_ : AR} {mlim mkpt msyn mcn : Int32} {mk ms mc me ch : AR}
theorem call_sync (I : Inv lim kpt syn tk ts tl th tt tv uk us ul uh ut uv ln rw_ mlim mkpt msyn mcn mk ms mc me ch) : ∃ (r k' s' : Int32) (uk' us' ul' uh' ut' uv' : AR) (ln' k2 s2 c2 : Int32) (mk' ms' mc' me' : AR), fX2_sync tk ts tl th tt tv kpt syn uk us ul uh ut uv ln = some (r, k', s', uk', us', ul', uh', ut', uv', ln') ∧ fX3_sync mkpt msyn mcn mk ms mc me = some (r, k2, s2, c2, mk', ms', mc', me') ∧ Inv lim k' s' tk ts tl th tt tv uk' us' ul' uh' ut' uv' ln' rw_ mlim k2 s2 c2 mk' ms' mc' me' ch := by
  obtain ⟨k', uk', us', ul', uh', ut', uv', mk', ms', mc', me', s1, s2, s3, s4⟩ := inv_sync I
  refine ⟨k', k', syn + 1, uk', us', ul', uh', ut', uv', 0, k', msyn + 1, 0, mk', ms', mc', me', ?_, s2, s3⟩
  unfold fX2_sync
  rw [bn9_s s1]
theorem Chain.uniq {L : Nat} {rw : AR} {C0 : T6} : ∀ {c : Nat} {C C' : T6}, Chain L rw C0 c C → Chain L rw C0 c C' → C = C'
  | 0, C, C', h, h' => by
    have e : C = C0 := h
    have e' : C' = C0 := h'
    rw [e, e']
  | c + 1, C, C', h, h' => by
    obtain ⟨C1, h1, h2⟩ := h
    obtain ⟨C2, g1, g2⟩ := h'
    have e := Chain.uniq h1 g1
    subst e
    exact Option.some.inj (h2.1.symm.trans g2.1)
theorem Chain.step {L : Nat} {rw : AR} {C0 : T6} {c k : Nat} {Cn Ck : T6} (h : Chain L rw C0 c Cn) (hk : k < c) (hC : Chain L rw C0 k Ck) : ∃ C', OpOk L (rw (5 * k)) (rw (5 * k + 1)) (rw (5 * k + 2)) (rw (5 * k + 3)) (rw (5 * k + 4)) Ck C' ∧ Chain L rw C0 (k + 1) C' := by
  obtain ⟨C', h1⟩ := h.pre (k + 1) (by omega)
  have h2 := h1
  obtain ⟨C1, g1, g2⟩ := h2
  have e := Chain.uniq g1 hC
  subst e
  exact ⟨C', g2, h1⟩
theorem crash_loop {L c j : Nat} {C0 Cn : T6} (hj : j ≤ c) (hc : c ≤ 23) (hch : Chain L rw_ C0 c Cn) (hrw : ∀ i, i < 5 * c → rw_ i = ch i) : ∀ (m k n : Nat) (Ck : T6) (mk ms mc me : AR), k + m = j → m < n → Chain L rw_ C0 k Ck → RelT Ck mk ms mc me → ∃ (Cj : T6) (mk' ms' mc' me' : AR), Chain L rw_ C0 j Cj ∧ RelT Cj mk' ms' mc' me' ∧ RelT Cj (sg 16 mk') (sg 16 ms') (sg 128 mc') (sg 512 me') ∧ fX2_crash_b18 rw_ n (nI j) (nI k) kpt tk ts tl th tt tv Ck.1 Ck.2.1 Ck.2.2.1 Ck.2.2.2.1 Ck.2.2.2.2.1 Ck.2.2.2.2.2 (nI c) = some (nI j, nI (lvN Cj.1 Cj.2.1), va_cpy Cj.1 tk 0 0 16, va_cpy Cj.2.1 ts 0 0 16, va_cpy Cj.2.2.1 tl 0 0 16, va_cpy Cj.2.2.2.1 th 0 0 16, va_cpy Cj.2.2.2.2.1 tt 0 0 512, va_cpy Cj.2.2.2.2.2 tv 0 0 128, Cj.1, Cj.2.1, Cj.2.2.1, Cj.2.2.2.1, Cj.2.2.2.2.1, Cj.2.2.2.2.2, 0) ∧ fX3_crash_b33 ch n (nI j) (nI k) mkpt mcn mk ms mc me = some (nI j, nI (lvN Cj.1 Cj.2.1), 0, mk', ms', mc', me') := by
  intro m
  induction m with
  | zero =>
    intro k n Ck mk ms mc me hk hn hC hR
    obtain ⟨n, rfl⟩ : ∃ n', n = n' + 1 := ⟨n - 1, by omega⟩
    have : k = j := by omega
    subst this
    obtain ⟨mk', ms', mc', me', s1, s2, s3⟩ := settle3 hR mkpt mcn
    refine ⟨Ck, mk', ms', mc', me', hC, s2, s3, ?_, ?_⟩
    · rw [fX2_crash_b18, if_pos (Int32.le_refl _), bn6_s (copyFrom1 _ _ _ _ _ _ _ _ _ _ _ _), bn2_s (fresh1 (Rel.cpy hR tk ts tl th tt tv) kpt (nI c)), lvN_congr (fun k h => ⟨sb_cpy0 h, sb_cpy0 h⟩)]
    · rw [fX3_crash_b33, if_pos (Int32.le_refl _), bn6_s s1]
  | succ m ih =>
    intro k n Ck mk ms mc me hk hn hC hR
    obtain ⟨n, rfl⟩ : ∃ n', n = n' + 1 := ⟨n - 1, by omega⟩
    obtain ⟨C', h1, h2⟩ := hch.step (k := k) (by omega) hC
    obtain ⟨r, mk1, ms1, mc1, me1, p1', p2', p3'⟩ := h1.2.2 mk ms mc me hR
    obtain ⟨Cj, mk', ms', mc', me', q1, q2, q3, q4, q5⟩ := ih (k + 1) n C' mk1 ms1 mc1 me1 (by omega) (by omega) h2 p2'
    refine ⟨Cj, mk', ms', mc', me', q1, q2, q3, ?_, ?_⟩
    · have hredo : fX0_redo (nI k) (nI c) rw_ Ck.1 Ck.2.1 Ck.2.2.1 Ck.2.2.2.1 Ck.2.2.2.2.1 Ck.2.2.2.2.2 = some (C'.1, C'.2.1, C'.2.2.1, C'.2.2.2.1, C'.2.2.2.2.1, C'.2.2.2.2.2) := by
        rw [redo0 (by omega) (by omega)]
        exact h1.1
      rw [fX2_crash_b18, if_neg (nI_ge (by omega) (by omega)), bn6_s hredo, slet_n, nI_1]
      exact q4
    · rw [hrw _ (by omega), hrw _ (by omega), hrw _ (by omega), hrw _ (by omega), hrw _ (by omega)] at p1'
      rw [fX3_crash_b33, if_neg (nI_ge (by omega) (by omega))]
      simp only [slet_n]
      rw [m5', p1, p2, p3, p4, ard_n (5 * k) (by omega) (by decide) rfl, ard_n (5 * k + 1) (by omega) (by decide) rfl, ard_n (5 * k + 2) (by omega) (by decide) rfl, ard_n (5 * k + 3) (by omega) (by decide) rfl, ard_n (5 * k + 4) (by omega) (by decide) rfl, bn5_s p1', nI_1]
      exact q5
theorem call_crash (I : Inv lim kpt syn tk ts tl th tt tv uk us ul uh ut uv ln rw_ mlim mkpt msyn mcn mk ms mc me ch) (x1 : Int32) : ∃ (r k' : Int32) (tk' ts' tl' th' tt' tv' uk' us' ul' uh' ut' uv' : AR) (ln' k2 c2 : Int32) (mk' ms' mc' me' : AR), fX2_crash x1 rw_ kpt tk ts tl th tt tv uk us ul uh ut uv ln = some (r, k', tk', ts', tl', th', tt', tv', uk', us', ul', uh', ut', uv', ln') ∧ fX3_crash x1 ch mkpt mcn mk ms mc me = some (r, k2, c2, mk', ms', mc', me') ∧ Inv lim k' syn tk' ts' tl' th' tt' tv' uk' us' ul' uh' ut' uv' ln' rw_ mlim k2 msyn c2 mk' ms' mc' me' ch := by
  obtain ⟨L, κ, c, Cn, ⟨a1, a2, a3, a4, a5, a6, a7, a8, a9, a10, a11⟩, R, hl, Ru, hlu, hrw, hch, hCn⟩ := I
  -- how many
  obtain ⟨j, hj, hv, hm⟩ : ∃ j, j ≤ c ∧ (if (0 : Int32) < (if nI c < x1 then nI c else x1) then (if nI c < x1 then nI c else x1) else 0) = nI j ∧ fX3_crash x1 ch mkpt mcn mk ms mc me = fX3_crash_b24 ch (nI j) mkpt mcn mk ms mc me := by
    by_cases h0 : x1 < 0
    · refine ⟨0, by omega, ?_, ?_⟩
      · have hn : ¬ nI c < x1 := fun q => by
          have := Int32.lt_trans q h0
          exact nI_pos (by omega) this
        rw [if_neg hn, if_neg (fun q => by have := Int32.lt_trans q h0; exact absurd this (by decide))]
        rfl
      · unfold fX3_crash
        rw [if_neg (Int32.not_le.mpr h0)]
        rfl
    · obtain ⟨k, hk, rfl⟩ := nI_of h0
      by_cases hkc : k ≤ c
      · refine ⟨k, hkc, ?_, ?_⟩
        · rw [if_neg (nI_nlt hkc (by omega))]
          by_cases hz : k = 0
          · subst hz; rfl
          · rw [if_pos (show (0 : Int32) < nI k from nI_lt (a := 0) (by omega) hk)]
        · unfold fX3_crash
          rw [if_pos (nI_pos' hk), a4, a10, if_pos (nI_le hkc (by omega))]
      · refine ⟨c, Nat.le_refl c, ?_, ?_⟩
        · rw [if_pos (nI_lt (by omega) hk)]
          by_cases hz : c = 0
          · subst hz; rfl
          · rw [if_pos (show (0 : Int32) < nI c from nI_lt (a := 0) (by omega) (by omega))]
        · unfold fX3_crash
          rw [if_pos (nI_pos' hk), a4, a10, if_neg (nI_ge (by omega) hk)]
  have R1 : RelT (uk, us, ul, uh, ut, uv) (cpk mk 16 1 0 16) (cpk ms 16 1 0 16) (cpk mc 128 1 0 128) (cpk me 512 1 0 512) := Ru.seg (fun k h => ⟨by rw [cp_to0 h, Nat.mul_one], by rw [cp_to0 h, Nat.mul_one]⟩) (fun j h => by rw [cp_to0 h, Nat.mul_one]) (fun j h => by rw [cp_to0 h, Nat.mul_one])
  obtain ⟨Cj, mk', ms', mc', me', q1, q2, q3, q4, q5⟩ := crash_loop (kpt := kpt) (tk := tk) (ts := ts) (tl := tl) (th := th) (tt := tt) (tv := tv) (mkpt := mkpt) (mcn := mcn) hj (by omega) hch hrw j 0 2000 (uk, us, ul, uh, ut, uv) _ _ _ _ (by omega) (by omega) rfl R1
  refine ⟨nI j, nI (lvN Cj.1 Cj.2.1), va_cpy Cj.1 tk 0 0 16, va_cpy Cj.2.1 ts 0 0 16, va_cpy Cj.2.2.1 tl 0 0 16, va_cpy Cj.2.2.2.1 th 0 0 16, va_cpy Cj.2.2.2.2.1 tt 0 0 512, va_cpy Cj.2.2.2.2.2 tv 0 0 128, Cj.1, Cj.2.1, Cj.2.2.1, Cj.2.2.2.1, Cj.2.2.2.2.1, Cj.2.2.2.2.2, 0, nI (lvN Cj.1 Cj.2.1), 0, mk', ms', mc', me', ?_, ?_, ?_⟩
  · unfold fX2_crash
    rw [a10, bn1_s (show fX0_length (nI c) = some (nI c) from rfl), slet_n, slet_n, hv]
    exact q4
  · rw [hm]
    unfold fX3_crash_b24
    rw [bn4_s (copy10 mk ms mc me)]
    exact q5
  · have hle : lvN Cj.1 Cj.2.1 + 8 ≤ L := Chain.le (C0 := (uk, us, ul, uh, ut, uv)) hlu q1
    have q2' : Rel Cj.1 Cj.2.1 Cj.2.2.1 Cj.2.2.2.1 Cj.2.2.2.2.1 Cj.2.2.2.2.2 mk' ms' mc' me' := q2
    have hpos : 1 ≤ lvN Cj.1 Cj.2.1 := lv_pos q2'
    have hcg : lvN (va_cpy Cj.1 tk 0 0 16) (va_cpy Cj.2.1 ts 0 0 16) = lvN Cj.1 Cj.2.1 := lvN_congr (fun k h => ⟨sb_cpy0 h, sb_cpy0 h⟩)
    exact ⟨L, lvN Cj.1 Cj.2.1, 0, Cj, ⟨a1, rfl, a3, rfl, a5, a6, a7, rfl, by omega, rfl, by omega⟩, q2'.cpy tk ts tl th tt tv, by rw [hcg]; exact hle, q3, hle, fun i hi => absurd hi (by omega), rfl, q2⟩
theorem call_find (I : Inv lim kpt syn tk ts tl th tt tv uk us ul uh ut uv ln rw_ mlim mkpt msyn mcn mk ms mc me ch) (x1 x2 : Int32) : ∃ r, fX2_find x1 x2 tk tt = some r ∧ fX3_find x1 x2 mk me = some r := by
  have R := I.rel
  have k1 : ∀ k, k < 16 → tk k = mk k := fun k h => (R.1 k h).1
  unfold fX2_find fX3_find
  rcases rng16 x1 with ⟨h1, h2⟩ | ⟨d, hd, rfl, h1, h2⟩
  · rw [bn1_s h1, bn1_s h2, if_pos rfl, if_neg (by decide)]
    exact ⟨_, rfl, rfl⟩
  rcases rng32 x2 with ⟨g1, g2⟩ | ⟨n, hn, rfl, g1, g2⟩
  · rw [bn1_s h1, bn1_s h2, if_neg (by decide), if_pos rfl, bn1_s g1, bn1_s g2, if_pos rfl, if_neg (by decide)]
    exact ⟨_, rfl, rfl⟩
  rw [bn1_s h1, bn1_s h2, if_neg (by decide), if_pos rfl, bn1_s g1, bn1_s g2, if_neg (by decide), if_pos rfl]
  by_cases hD : tk d = 2
  · have hmd : mk d = 2 := by rw [← k1 d hd]; exact hD
    rw [bn1_s (isDir1y hd hD), if_neg (by decide), bn1_s (tgt hd hn), bn1_s (isDir3y hd hmd), if_neg (show ¬ (1 : Int32) = 0 by decide)]
    simp only [slet_n]
    rw [ard_n (n := 1536) (32 * d + n) (by omega) (by decide) (ix32' d n)]
    by_cases hT : tt (32 * d + n) = 0
    · rw [if_pos hT, if_pos ((R.tgme (by omega)).mp hT)]
      exact ⟨_, rfl, rfl⟩
    · obtain ⟨i, hi1, hi, t1, t2, t3⟩ := there R (j := 32 * d + n) (by omega) hT
      rw [if_neg hT, bn1_s (tgt hd hn), if_neg (fun q => hT ((R.tgme (by omega)).mpr q)), ard_n (n := 1536) (32 * d + n) (by omega) (by decide) (ix32' d n), t1, t2]
      exact ⟨_, rfl, rfl⟩
  · have hmd : ¬ mk d = 2 := by rw [← k1 d hd]; exact hD
    rw [bn1_s (isDir1n hd hD), if_pos rfl, bn1_s (isDir3n hd hmd), if_pos rfl]
    exact ⟨_, rfl, rfl⟩
theorem call_entry (I : Inv lim kpt syn tk ts tl th tt tv uk us ul uh ut uv ln rw_ mlim mkpt msyn mcn mk ms mc me ch) (x1 x2 : Int32) : ∃ r, fX2_entry x1 x2 tk tt = some r ∧ fX3_entry x1 x2 mk me = some r := by
  have R := I.rel
  have k1 : ∀ k, k < 16 → tk k = mk k := fun k h => (R.1 k h).1
  unfold fX2_entry fX3_entry
  rcases rng16 x1 with ⟨h1, h2⟩ | ⟨d, hd, rfl, h1, h2⟩
  · rw [bn1_s h1, bn1_s h2, if_pos rfl, if_neg (by decide)]
    exact ⟨_, rfl, rfl⟩
  rw [bn1_s h1, bn1_s h2, if_neg (by decide), if_pos rfl]
  by_cases hD : tk d = 2
  · have hmd : mk d = 2 := by rw [← k1 d hd]; exact hD
    obtain ⟨r, q1, q2⟩ := nth_loop (tg := tt) (kd := mk) (en := me) hd x2 (fun b hb => R.tgme (by omega)) 32 0 2000 0 rfl (by decide)
    rw [bn1_s (isDir1y hd hD), if_neg (by decide), bn1_s (isDir3y hd hmd), if_neg (by decide), bn1_s (show fX1_nthName (nI d) x2 tt = some r from q1)]
    exact ⟨r, rfl, q2⟩
  · have hmd : ¬ mk d = 2 := by rw [← k1 d hd]; exact hD
    rw [bn1_s (isDir1n hd hD), if_pos rfl, bn1_s (isDir3n hd hmd), if_pos rfl]
    exact ⟨_, rfl, rfl⟩
theorem call_read (I : Inv lim kpt syn tk ts tl th tt tv uk us ul uh ut uv ln rw_ mlim mkpt msyn mcn mk ms mc me ch) (x1 x2 : Int32) : ∃ r, fX2_read x1 x2 tk ts tv = some r ∧ fX3_read x1 x2 mk ms mc = some r := by
  have R := I.rel
  have k1 : ∀ k, k < 16 → tk k = mk k := fun k h => (R.1 k h).1
  unfold fX2_read fX3_read
  rcases rng16 x1 with ⟨h1, h2⟩ | ⟨f, hf, rfl, h1, h2⟩
  · rw [bn1_s h1, bn1_s h2, if_pos rfl, if_neg (by decide)]
    exact ⟨_, rfl, rfl⟩
  rw [bn1_s h1, bn1_s h2, if_neg (by decide), if_pos rfl, ard_n (n := 48) f (by omega) (by decide) rfl]
  by_cases hF : tk f = 1
  · have hmf : mk f = 1 := by rw [← k1 f hf]; exact hF
    obtain ⟨e1, s, hs, es⟩ := R.2.2.2.1 f hf hmf
    rw [bn1_s (isFile1y hf hF), if_neg (by decide), if_pos hmf, ard_n (n := 48) f (by omega) (by decide) rfl, bn1_s (size1 hf), e1, es]
    rcases out3 (n := s) (by omega) (N := nI s) rfl x2 with ⟨g1, g2⟩ | ⟨p, hp, rfl, g1⟩
    · rw [bn1_s g1, if_neg (show ¬ (1 : Int32) = 0 by decide)]
      by_cases h0 : x2 < 0
      · rw [if_pos h0]; exact ⟨_, rfl, rfl⟩
      · rcases g2 with g2 | g2
        · exact absurd g2 h0
        · rw [if_neg h0, if_neg (Int32.not_lt.mpr g2)]; exact ⟨_, rfl, rfl⟩
    · rw [bn1_s g1, if_pos (show (0 : Int32) = 0 from rfl), if_neg (nI_pos (by omega)), if_pos (nI_lt hp (by omega))]
      have hv : fX1_value (nI f) (nI p) tv = some (tv (8 * f + p)) := by
        unfold fX1_value
        simp only [slet_n]
        rw [ard_n (8 * f + p) (by omega) (by decide) (ix8 f p)]
      rw [bn1_s hv]
      simp only [slet_n]
      rw [ard_n (n := 384) (8 * f + p) (by omega) (by decide) (ix8' f p), R.2.2.2.2.2.2.2.1 (8 * f + p) (by omega)]
      exact ⟨_, rfl, rfl⟩
  · have hmf : ¬ mk f = 1 := by rw [← k1 f hf]; exact hF
    rw [bn1_s (isFile1n hf hF), if_pos rfl, if_neg hmf]
    exact ⟨_, rfl, rfl⟩
theorem call_tell (I : Inv lim kpt syn tk ts tl th tt tv uk us ul uh ut uv ln rw_ mlim mkpt msyn mcn mk ms mc me ch) (x1 x2 : Int32) : ∃ r, fX2_tell x1 x2 tk ts tl = some r ∧ fX3_tell x1 x2 mk ms me = some r := by
  have R := I.rel
  have k1 : ∀ k, k < 16 → tk k = mk k := fun k h => (R.1 k h).1
  unfold fX2_tell fX3_tell
  rcases rng16 x1 with ⟨h1, h2⟩ | ⟨f, hf, rfl, h1, h2⟩
  · rw [bn1_s h1, bn1_s h2, if_pos rfl, if_neg (by decide)]
    exact ⟨_, rfl, rfl⟩
  rw [bn1_s h1, bn1_s h2, if_neg (by decide), if_pos rfl]
  have hk : fX1_kind (nI f) tk = some (tk f) := by
    unfold fX1_kind
    rw [ard_n f hf (by decide) rfl]
  rcases out3 (n := 3) (by decide) (N := 3) rfl x2 with ⟨g1, g2⟩ | ⟨p, hp, rfl, g1⟩
  · rw [bn1_s g1, if_neg (show ¬ (1 : Int32) = 0 by decide)]
    by_cases h0 : x2 < 0
    · rw [if_pos h0]; exact ⟨_, rfl, rfl⟩
    · rcases g2 with g2 | g2
      · exact absurd g2 h0
      · rw [if_neg h0, if_neg (fun q => by have h9 : (3 : Int32) ≤ 2 := Int32.le_trans g2 q; exact absurd h9 (by decide))]
        exact ⟨_, rfl, rfl⟩
  · rw [bn1_s g1, if_pos (show (0 : Int32) = 0 from rfl), if_neg (nI_pos (by omega)), if_pos (show nI p ≤ 2 from nI_le (b := 2) (by omega) (by decide)), bn1_s hk, bn1_s hk, ard_n (n := 48) f (by omega) (by decide) rfl, ard_n (n := 48) f (by omega) (by decide) rfl, k1 f hf]
    by_cases e0 : nI p = 0
    · rw [if_pos e0, if_pos e0]; exact ⟨_, rfl, rfl⟩
    · rw [if_neg e0, if_neg e0]
      by_cases hz : mk f = 0
      · rw [if_pos hz, if_pos hz]; exact ⟨_, rfl, rfl⟩
      · rw [if_neg hz, if_neg hz]
        by_cases e1 : nI p = 1
        · rw [if_pos e1, if_pos e1, bn1_s (size1 hf)]
          by_cases hD : mk f = 2
          · rw [bn1_s (isDir3y hf hD), if_neg (by decide), bn1_s (ec3 hf), (R.2.2.2.2.1 f hf hD).1]
            exact ⟨_, rfl, rfl⟩
          · have hF : mk f = 1 := by
              rcases (R.1 f hf).2 with q | q | q
              · exact absurd q hz
              · exact q
              · exact absurd q hD
            rw [bn1_s (isDir3n hf hD), if_pos rfl, ard_n (n := 48) f (by omega) (by decide) rfl, (R.2.2.2.1 f hf hF).1]
            exact ⟨_, rfl, rfl⟩
        · rw [if_neg e1, if_neg e1, bn1_s (links1 hf), bn1_s lc3, R.2.2.2.2.2.2.1 f hf]
          exact ⟨_, rfl, rfl⟩
theorem call_count (I : Inv lim kpt syn tk ts tl th tt tv uk us ul uh ut uv ln rw_ mlim mkpt msyn mcn mk ms mc me ch) (x1 : Int32) : ∃ r, fX2_count x1 lim kpt syn tk ts ln = some r ∧ fX3_count x1 mlim mkpt msyn mcn mk ms = some r := by
  have R := I.rel
  obtain ⟨L, κ, c, Cn, ⟨a1, a2, a3, a4, -⟩, -⟩ := I
  have hn : nc tk = nc mk := sumN_congr (fun k hk => by rw [(R.1 k hk).1])
  unfold fX2_count fX3_count
  rw [bn1_s (live1 R.szC), bn1_s (live3 R.szM), R.lv, bn1_s (show fX0_length ln = some ln from rfl), bn1_s nodes1, bn1_s nodes3, hn, a1, a2, a3, a4]
  repeat' split
  all_goals exact ⟨_, rfl, rfl⟩
end CALLS
