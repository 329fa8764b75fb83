section DOES
variable {kd sz lk hm tg vl mk0 ms0 mc0 me0 : AR}
theorem int_sub_nI {a b : Nat} (h : b ≤ a) : nI a + -nI b = nI (a - b) := by
  rw [← Int32.sub_eq_add_neg, pk_sub h]
theorem lc_pos {me : AR} {j i : Nat} (hj : j < 512) (h : me j = nI i) : 1 ≤ lc me i := by
  have := sumN_ge (w := fun j => wL i (me j)) (j := j) (n := 512) hj
  have h9 : wL i (me j) = 1 := wL_1 h
  rw [h9] at this
  exact this
theorem lc_le {me : AR} {i : Nat} : lc me i ≤ 512 := by
  have := sumN_le (w := fun j => wL i (me j)) (c := 1) (n := 512) (fun j _ => by show wL i (me j) ≤ 1; unfold wL; split <;> omega)
  exact this
theorem dropE_go {d n i : Nat} (hd : d < 16) (hn : n < 32) (hi : i < 16) (h : tg (32 * d + n) = nI i) (hl : lk i - 1 = 0) : fX1_dropEntry (nI d) (nI n) kd sz lk tg = some (upd kd i 0, upd (upd sz d (sz d - 1)) i 0, upd lk i (lk i - 1), upd tg (32 * d + n) 0) := by
  unfold fX1_dropEntry
  rw [bn4_s (takeE hd hn hi h), ard_n i hi (by decide) rfl, upd_s, if_pos hl, awr_n i hi (by decide) rfl, awr_n i hi (by decide) rfl]
theorem dropE_stay {d n i : Nat} (hd : d < 16) (hn : n < 32) (hi : i < 16) (h : tg (32 * d + n) = nI i) (hl : ¬ lk i - 1 = 0) : fX1_dropEntry (nI d) (nI n) kd sz lk tg = some (kd, upd sz d (sz d - 1), upd lk i (lk i - 1), upd tg (32 * d + n) 0) := by
  unfold fX1_dropEntry
  rw [bn4_s (takeE hd hn hi h), ard_n i hi (by decide) rfl, upd_s, if_neg hl]
theorem le1 {n : Nat} (h : n < 2 ^ 31) : nI n ≤ 1 ↔ n ≤ 1 := nI_leI h (by decide)
theorem does_go (R0 : Rel kd sz lk hm tg vl mk0 ms0 mc0 me0) {d n i : Nat} {x y : Int32} (hd : d < 16) (hn : n < 32) (hi1 : 1 ≤ i) (hi : i < 16) (h1 : kd d = 2) (h2 : tg (32 * d + n) = nI i) (h3 : kd i = 2 → sz i = 0) (h4 : lk i ≤ 1) : Does 2 (nI d) (nI n) x y 0 (-nI (wS (kd i) (sz i))) kd sz lk hm tg vl := by
  have key : ∀ mk ms mc me : AR, Rel kd sz lk hm tg vl mk ms mc me → mk d = 2 ∧ me (32 * d + n) = nI i ∧ (mk i = 2 → ec me i = 0) ∧ lc me i = 1 := fun mk ms mc me R => by
    have k1 : ∀ k, k < 16 → kd k = mk k := fun k h => (R.1 k h).1
    have hme := tgn R (j := 32 * d + n) (by omega) hi1 hi h2
    refine ⟨by rw [← k1 d hd]; exact h1, hme, fun q => ?_, ?_⟩
    · have h5 := R.2.2.2.2.1 i hi q
      rw [h3 (by rw [k1 i hi]; exact q)] at h5
      exact (nI_inj (by decide) (by omega) h5.1).symm
    · rw [R.2.2.2.2.2.2.1 i hi] at h4
      have a := (le1 (by have := lc_le (me := me) (i := i); omega)).mp h4
      have b := lc_pos (me := me) (j := 32 * d + n) (by omega) hme
      omega
  have hl : lk i - 1 = 0 := by
    obtain ⟨-, -, -, q⟩ := key mk0 ms0 mc0 me0 R0
    rw [R0.2.2.2.2.2.2.1 i hi, q]
    rfl
  have hdi : d ≠ i := by
    obtain ⟨a1, a2, a3, a4⟩ := key mk0 ms0 mc0 me0 R0
    exact (rel_go R0 hd hn hi1 hi a1 a2 a3 a4).1
  refine ⟨upd kd i 0, upd (upd sz d (sz d - 1)) i 0, upd lk i (lk i - 1), hm, upd tg (32 * d + n) 0, vl, ?_, ?_, ?_⟩
  · unfold stepC
    rw [if_neg (by decide), if_neg (by decide), if_pos rfl, bn4_s (dropE_go hd hn hi h2 hl)]
  · have := lv_upd (mk := kd) (ms := sz) (mk' := upd kd i 0) (ms' := sz) (a := i) hi (fun k _ e => ⟨upd_n e, rfl⟩)
    rw [upd_s, wS_0 rfl] at this
    have e2 : lvN (upd kd i 0) (upd (upd sz d (sz d - 1)) i 0) = lvN (upd kd i 0) sz := sumN_congr (fun k hk => by
      by_cases e : k = i
      · subst e
        rw [upd_s, wS_0 rfl, wS_0 rfl]
      · rw [upd_n e, upd_n e]
        by_cases e' : k = d
        · subst e'
          rw [h1, wS_2 (by decide) (by decide), wS_2 (by decide) (by decide)]
        · rw [upd_n (f := sz) e'])
    rw [e2, int_sub_nI (by omega)]
    exact congrArg nI (by omega)
  · intro mk ms mc me R
    obtain ⟨a1, a2, a3, a4⟩ := key mk ms mc me R
    refine ⟨upd mk i 0, ms, mc, upd me (32 * d + n) (-1), ?_, (rel_go R hd hn hi1 hi a1 a2 a3 a4).2, ⟨fun k hk => ⟨upd_n (by omega), rfl⟩, far_upd (by omega), fun _ _ => rfl⟩⟩
    have hl0 : lc (upd me (32 * d + n) (-1)) i = 0 := by
      have := lc_upd (me := me) (j := 32 * d + n) (k := i) (v := -1) (by omega)
      rw [a2, wL_self, wL_m1 hi] at this
      omega
    have hlk : fX3_links (nI i) (upd me (32 * d + n) (-1)) = some 0 := by rw [lc3, hl0]; rfl
    unfold fX3_perform
    rw [if_neg (by decide), if_neg (by decide), if_pos rfl]
    simp only [slet_n]
    rw [ard_n (32 * d + n) (by omega) (by decide) (ix32' d n), a2, awr_n (32 * d + n) (by omega) (by decide) (ix32' d n), bn1_s hlk, if_pos rfl, awr_n i (by omega) (by decide) rfl]
theorem does_stay (R0 : Rel kd sz lk hm tg vl mk0 ms0 mc0 me0) {d n i : Nat} {x y : Int32} (hd : d < 16) (hn : n < 32) (hi1 : 1 ≤ i) (hi : i < 16) (h1 : kd d = 2) (h2 : tg (32 * d + n) = nI i) (h4 : ¬ lk i ≤ 1) : Does 2 (nI d) (nI n) x y 0 0 kd sz lk hm tg vl := by
  have key : ∀ mk ms mc me : AR, Rel kd sz lk hm tg vl mk ms mc me → mk d = 2 ∧ me (32 * d + n) = nI i ∧ 2 ≤ lc me i := fun mk ms mc me R => by
    have k1 : ∀ k, k < 16 → kd k = mk k := fun k h => (R.1 k h).1
    have hme := tgn R (j := 32 * d + n) (by omega) hi1 hi h2
    refine ⟨by rw [← k1 d hd]; exact h1, hme, ?_⟩
    rw [R.2.2.2.2.2.2.1 i hi, le1 (by have := lc_le (me := me) (i := i); omega)] at h4
    omega
  have hl : ¬ lk i - 1 = 0 := by
    obtain ⟨-, -, q⟩ := key mk0 ms0 mc0 me0 R0
    have := lc_le (me := me0) (i := i)
    rw [R0.2.2.2.2.2.2.1 i hi, pk_1 (by omega)]
    exact nI_ne0 (by omega) (by omega)
  refine ⟨kd, upd sz d (sz d - 1), upd lk i (lk i - 1), hm, upd tg (32 * d + n) 0, vl, ?_, ?_, ?_⟩
  · unfold stepC
    rw [if_neg (by decide), if_neg (by decide), if_pos rfl, bn4_s (dropE_stay hd hn hi h2 hl)]
  · have e2 : lvN kd (upd sz d (sz d - 1)) = lvN kd sz := sumN_congr (fun k hk => by
      by_cases e' : k = d
      · subst e'
        rw [h1, wS_2 (by decide) (by decide), wS_2 (by decide) (by decide)]
      · rw [upd_n (f := sz) e'])
    rw [e2, Int32.add_zero]
  · intro mk ms mc me R
    obtain ⟨a1, a2, a3⟩ := key mk ms mc me R
    refine ⟨mk, ms, mc, upd me (32 * d + n) (-1), ?_, rel_stay R hd hn hi1 hi a1 a2 a3, ⟨fun k hk => ⟨rfl, rfl⟩, far_upd (by omega), fun _ _ => rfl⟩⟩
    have hl0 : lc (upd me (32 * d + n) (-1)) i = lc me i - 1 := by
      have := lc_upd (me := me) (j := 32 * d + n) (k := i) (v := -1) (by omega)
      rw [a2, wL_self, wL_m1 hi] at this
      omega
    unfold fX3_perform
    rw [if_neg (by decide), if_neg (by decide), if_pos rfl]
    simp only [slet_n]
    rw [ard_n (32 * d + n) (by omega) (by decide) (ix32' d n), a2, awr_n (32 * d + n) (by omega) (by decide) (ix32' d n), bn1_s lc3, if_neg (by rw [hl0]; exact nI_ne0 (by omega) (by have := lc_le (me := me) (i := i); omega))]
theorem does_rename {d n t u i : Nat} (hd : d < 16) (hn : n < 32) (ht : t < 16) (hu : u < 32) (hi1 : 1 ≤ i) (hi : i < 16) (h1 : kd d = 2) (h1' : kd t = 2) (h2 : tg (32 * d + n) = nI i) (h3 : tg (32 * t + u) = 0) (h5 : t ≠ d → ∃ e, e < 8 ∧ sz t = nI e) : Does 3 (nI d) (nI n) (nI t) (nI u) 0 0 kd sz lk hm tg vl := by
  refine ⟨kd, upd (upd sz d (sz d - 1)) t (upd sz d (sz d - 1) t + 1), upd (upd lk i (lk i - 1)) i (upd lk i (lk i - 1) i + 1), upd hm i (nI t), upd (upd tg (32 * d + n) 0) (32 * t + u) (nI i), vl, ?_, ?_, ?_⟩
  · have : fX1_moveEntry (nI d) (nI n) (nI t) (nI u) sz lk hm tg = some (upd (upd sz d (sz d - 1)) t (upd sz d (sz d - 1) t + 1), upd (upd lk i (lk i - 1)) i (upd lk i (lk i - 1) i + 1), upd hm i (nI t), upd (upd tg (32 * d + n) 0) (32 * t + u) (nI i)) := by
      unfold fX1_moveEntry
      rw [bn4_s (takeE hd hn hi h2), bn4_s (addE ht hu hi)]
    unfold stepC
    rw [if_neg (by decide), if_neg (by decide), if_neg (by decide), if_pos rfl, bn4_s this]
  · have e2 : lvN kd (upd (upd sz d (sz d - 1)) t (upd sz d (sz d - 1) t + 1)) = lvN kd sz := sumN_congr (fun k hk => by
      by_cases e : k = t
      · subst e
        rw [h1', wS_2 (by decide) (by decide), wS_2 (by decide) (by decide)]
      · rw [upd_n e]
        by_cases e' : k = d
        · subst e'
          rw [h1, wS_2 (by decide) (by decide), wS_2 (by decide) (by decide)]
        · rw [upd_n (f := sz) e'])
    rw [e2, Int32.add_zero]
  · intro mk ms mc me R
    have k1 : ∀ k, k < 16 → kd k = mk k := fun k h => (R.1 k h).1
    have hmd : mk d = 2 := by rw [← k1 d hd]; exact h1
    have hmt : mk t = 2 := by rw [← k1 t ht]; exact h1'
    have hme := tgn R (j := 32 * d + n) (by omega) hi1 hi h2
    have hme2 := tg0 R (j := 32 * t + u) (by omega) h3
    have hec : t ≠ d → ec me t < 8 := fun q => by
      obtain ⟨e, he, es⟩ := h5 q
      have h5' := R.2.2.2.2.1 t ht hmt
      rw [es] at h5'
      have := nI_inj (by omega) (by omega) h5'.1
      omega
    refine ⟨mk, ms, mc, upd (upd me (32 * d + n) (-1)) (32 * t + u) (nI i), ?_, rel_rename R hd hn ht hu hi1 hi hmd hmt hme hme2 hec, ⟨fun k hk => ⟨rfl, rfl⟩, fun j hj => by rw [upd_n (by omega), upd_n (by omega)], fun _ _ => rfl⟩⟩
    unfold fX3_perform
    rw [if_neg (by decide), if_neg (by decide), if_neg (by decide), if_pos rfl]
    simp only [slet_n]
    rw [ard_n (32 * d + n) (by omega) (by decide) (ix32' d n), hme, awr_n (32 * d + n) (by omega) (by decide) (ix32' d n), awr_n (32 * t + u) (by omega) (by decide) (ix32' t u)]
theorem lv_size {a s s' : Nat} {sz' : AR} (ha : a < 16) (hs : s ≤ 8) (hs' : s' ≤ 8) (h1 : kd a = 1) (h2 : sz a = nI s) (h3 : sz' a = nI s') (h4 : ∀ k, k ≠ a → sz' k = sz k) : lvN kd sz' + s = lvN kd sz + s' := by
  have := lv_upd (mk := kd) (ms := sz) (mk' := kd) (ms' := sz') (a := a) ha (fun k _ e => ⟨rfl, h4 k e⟩)
  rw [wS_1 h1 h2 hs, wS_1 h1 h3 hs'] at this
  omega
theorem does_write {f p s : Nat} {x y : Int32} (hf : f < 16) (hp : p < 8) (hps : p ≤ s) (hs : s ≤ 8) (h1 : kd f = 1) (h2 : sz f = nI s) : Does 4 (nI f) (nI p) x y 0 (if p = s then 1 else 0) kd sz lk hm tg vl := by
  have hmax : (if nI s < nI (p + 1) then nI (p + 1) else nI s) = nI (if p = s then s + 1 else s) := by
    by_cases e : p = s
    · subst e
      rw [if_pos rfl, if_pos (nI_lt (by omega) (by omega))]
    · rw [if_neg e, if_neg (nI_nlt (by omega) (by omega))]
  have hs2 : (if p = s then s + 1 else s) ≤ 8 := by split <;> omega
  refine ⟨kd, upd sz f (nI (if p = s then s + 1 else s)), lk, hm, tg, upd vl (8 * f + p) x, ?_, ?_, ?_⟩
  · have : fX1_setInt (nI f) (nI p) x sz vl = some (upd sz f (nI (if p = s then s + 1 else s)), upd vl (8 * f + p) x) := by
      unfold fX1_setInt
      simp only [slet_n]
      rw [awr_n (8 * f + p) (by omega) (by decide) (ix8 f p), ard_n f hf (by decide) rfl, awr_n f hf (by decide) rfl, h2, nI_1, hmax]
    unfold stepC
    rw [if_neg (by decide), if_neg (by decide), if_neg (by decide), if_neg (by decide), if_pos rfl, bn2_s this]
  · have := lv_size (kd := kd) (sz := sz) (sz' := upd sz f (nI (if p = s then s + 1 else s))) hf hs hs2 h1 h2 upd_s (fun k e => upd_n e)
    by_cases e : p = s
    · rw [if_pos e] at this ⊢
      rw [if_pos e, nI_1]
      exact congrArg nI (by omega)
    · rw [if_neg e] at this ⊢
      rw [if_neg e, Int32.add_zero]
      exact congrArg nI (by omega)
  · intro mk ms mc me R
    have k1 : ∀ k, k < 16 → kd k = mk k := fun k h => (R.1 k h).1
    have hmf : mk f = 1 := by rw [← k1 f hf]; exact h1
    have hms : ms f = nI s := by rw [← (R.2.2.2.1 f hf hmf).1]; exact h2
    by_cases e : p = s
    · refine ⟨mk, upd ms f (nI (s + 1)), upd mc (8 * f + p) x, me, ?_, rel_val (rel_size R hf hs2 hmf (by rw [upd_s, if_pos e]) (fun k q => upd_n q)), ⟨fun k hk => ⟨rfl, upd_n (by omega)⟩, fun _ _ => rfl, far_upd (by omega)⟩⟩
      unfold fX3_perform
      rw [if_neg (by decide), if_neg (by decide), if_neg (by decide), if_neg (by decide), if_pos rfl]
      simp only [slet_n]
      rw [awr_n (8 * f + p) (by omega) (by decide) (ix8' f p), ard_n f (by omega) (by decide) rfl, hms, if_pos (by rw [e]), ard_n f (by omega) (by decide) rfl, awr_n f (by omega) (by decide) rfl, hms, nI_1]
    · refine ⟨mk, ms, upd mc (8 * f + p) x, me, ?_, rel_val (rel_size R hf hs2 hmf (by rw [if_neg e]; exact hms) (fun k q => rfl)), ⟨fun k hk => ⟨rfl, rfl⟩, fun _ _ => rfl, far_upd (by omega)⟩⟩
      unfold fX3_perform
      rw [if_neg (by decide), if_neg (by decide), if_neg (by decide), if_neg (by decide), if_pos rfl]
      simp only [slet_n]
      rw [awr_n (8 * f + p) (by omega) (by decide) (ix8' f p), ard_n f (by omega) (by decide) rfl, hms, if_neg (fun q => e (nI_inj (by omega) (by omega) q))]
theorem does_cut {f p s : Nat} {x y : Int32} (hf : f < 16) (hps : p ≤ s) (hs : s ≤ 8) (h1 : kd f = 1) (h2 : sz f = nI s) : Does 5 (nI f) (nI p) x y 0 (nI p - nI s) kd sz lk hm tg vl := by
  refine ⟨kd, upd sz f (nI p), lk, hm, tg, vl, ?_, ?_, ?_⟩
  · have : fX1_setSize (nI f) (nI p) sz = some (upd sz f (nI p)) := by
      unfold fX1_setSize
      rw [awr_n f hf (by decide) rfl]
    unfold stepC
    rw [if_neg (by decide), if_neg (by decide), if_neg (by decide), if_neg (by decide), if_neg (by decide), bn1_s this]
  · have := lv_size (kd := kd) (sz := sz) (sz' := upd sz f (nI p)) hf hs (by omega) h1 h2 upd_s (fun k e => upd_n e)
    have e1 : nI (lvN kd sz) = nI (lvN kd (upd sz f (nI p))) + (nI s - nI p) := by
      rw [pk_sub hps, nI_add]
      exact congrArg nI (by omega)
    rw [e1, Int32.add_assoc]
    have : nI s - nI p + (nI p - nI s) = 0 := by
      rw [Int32.sub_eq_add_neg, Int32.sub_eq_add_neg, Int32.add_assoc, ← Int32.add_assoc (-nI p), Int32.add_left_neg, Int32.zero_add, Int32.add_right_neg]
    rw [this, Int32.add_zero]
  · intro mk ms mc me R
    have k1 : ∀ k, k < 16 → kd k = mk k := fun k h => (R.1 k h).1
    have hmf : mk f = 1 := by rw [← k1 f hf]; exact h1
    refine ⟨mk, upd ms f (nI p), mc, me, ?_, rel_size R hf (by omega) hmf upd_s (fun k q => upd_n q), ⟨fun k hk => ⟨rfl, upd_n (by omega)⟩, fun _ _ => rfl, fun _ _ => rfl⟩⟩
    unfold fX3_perform
    rw [if_neg (by decide), if_neg (by decide), if_neg (by decide), if_neg (by decide), if_neg (by decide), awr_n f (by omega) (by decide) rfl]
theorem does_all {K a b x y ans g : Int32} (R0 : Rel kd sz lk hm tg vl mk0 ms0 mc0 me0) (h : OkC K a b x y ans g kd sz lk tg) : Does K a b x y ans g kd sz lk hm tg vl := by
  rcases h with ⟨rfl, d, n, f, q1, q2, q3, q4, rfl, rfl, q7, q8, q9, q10, q12, q13, rfl, rfl⟩ | ⟨rfl, d, n, f, q1, q2, q3, rfl, rfl, rfl, q7, q8, q9, q10, rfl, rfl⟩ | ⟨rfl, d, n, i, q1, q2, q3, q4, rfl, rfl, q7, q8, q9, rfl, q11⟩ | ⟨rfl, d, n, t, u, i, q1, q2, q3, q4, q5, q6, rfl, rfl, rfl, rfl, q11, q12, q13, q14, q15, rfl, rfl⟩ | ⟨rfl, f, p, s, q1, q2, q3, q4, rfl, rfl, q7, q8, rfl, rfl⟩ | ⟨rfl, f, p, s, q1, q2, q3, rfl, rfl, q7, q8, rfl, rfl⟩
  · exact does_create R0 q1 q2 q3 q4 q7 q8 q9 q10 q12 q13
  · exact does_link q1 q2 q3 q7 q8 q9 q10
  · rcases q11 with ⟨q, rfl⟩ | ⟨q, rfl⟩
    · exact does_go R0 q1 q2 q3 q4 q7 q8 q9 q
    · exact does_stay R0 q1 q2 q3 q4 q7 q8 q
  · exact does_rename q1 q2 q3 q4 q5 q6 q11 q12 q13 q14 q15
  · exact does_write q1 q2 q3 q4 q7 q8
  · exact does_cut q1 q2 q3 q7 q8
end DOES
