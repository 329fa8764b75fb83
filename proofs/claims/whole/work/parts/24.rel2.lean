section REL
variable {kd sz lk hm tg vl mk ms mc me : Nat → Int32}
theorem ec_pos {d n i : Nat} (hn : n < 32) (hi : i < 16) (h : me (32 * d + n) = nI i) : 1 ≤ ec me d := by
  have := sumN_ge (w := fun b => wE (me (32 * d + b))) (j := n) (n := 32) hn
  have h2 : wE (me (32 * d + n)) = 1 := by rw [h]; exact wE_n hi
  rw [h2] at this
  exact this
theorem pk_1 {a : Nat} (h : 1 ≤ a) : nI a - 1 = nI (a - 1) := pk_sub h
theorem rel_go (R : Rel kd sz lk hm tg vl mk ms mc me) {d n i : Nat} (hd : d < 16) (hn : n < 32) (hi1 : 1 ≤ i) (hi : i < 16) (h1 : mk d = 2) (h2 : me (32 * d + n) = nI i) (h3 : mk i = 2 → ec me i = 0) (h4 : lc me i = 1) :
    d ≠ i ∧ Rel (upd kd i 0) (upd (upd sz d (sz d - 1)) i 0) (upd lk i (lk i - 1)) hm (upd tg (32 * d + n) 0) vl (upd mk i 0) ms mc (upd me (32 * d + n) (-1)) := by
  obtain ⟨r1, r2, r3, r4, r5, r6, r7, r8, r9, r10⟩ := R
  have hep := ec_pos hn hi h2
  have hdi : d ≠ i := fun e => by
    have := h3 (by rw [← e]; exact h1)
    rw [← e] at this
    omega
  have hlu := fun (k : Nat) => lc_upd (me := me) (j := 32 * d + n) (k := k) (v := -1) (by omega)
  have hl0 : lc (upd me (32 * d + n) (-1)) i = 0 := by
    have := hlu i
    rw [h2, wL_self, wL_m1 hi] at this
    omega
  have hno : ∀ j, j < 512 → ¬ upd me (32 * d + n) (-1) j = nI i := fun j hj e => by
    have := sumN_ge (w := fun j => wL i (upd me (32 * d + n) (-1) j)) (j := j) (n := 512) hj
    have h9 : wL i (upd me (32 * d + n) (-1) j) = 1 := wL_1 e
    rw [h9] at this
    have : 1 ≤ lc (upd me (32 * d + n) (-1)) i := this
    omega
  refine ⟨hdi, fun k h => ?_, ?_, fun j h => ?_, fun k h q => ?_, fun k h q => ?_, fun k h q => ?_, fun k h => ?_, r8, fun k h0 h q => ?_, r10⟩
  · by_cases e : k = i
    · subst e; rw [upd_s, upd_s]; exact ⟨rfl, Or.inl rfl⟩
    · rw [upd_n e, upd_n e]; exact r1 k h
  · rw [upd_n (by omega)]; exact r2
  · by_cases e : j = 32 * d + n
    · subst e
      rw [upd_s, upd_s]
      exact Or.inl ⟨rfl, rfl⟩
    · have hno' := hno j h
      rw [upd_n e] at hno'
      rw [upd_n e, upd_n e]
      rcases r3 j h with a | ⟨i', a1, a2, a3, a4, a5, a6⟩
      · exact Or.inl a
      · refine Or.inr ⟨i', a1, a2, a3, a4, ?_, ?_⟩
        · rw [upd_n (fun e => hno' (by rw [a3, e]))]; exact a5
        · rw [upd_n]
          · exact a6
          · intro e9
            have hz := h3 (by rw [← e9]; exact a6)
            have hp := ec_pos (me := me) (d := j / 32) (n := j % 32) (i := i') (by omega) a2 (by rw [show 32 * (j / 32) + j % 32 = j by omega]; exact a3)
            rw [e9] at hp
            omega
  · by_cases e : k = i
    · subst e; rw [upd_s] at q; exact absurd q (by decide)
    · rw [upd_n e] at q
      rw [upd_n e, upd_n (fun e => by rw [e, h1] at q; exact absurd q (by decide))]
      exact r4 k h q
  · by_cases e : k = i
    · subst e; rw [upd_s] at q; exact absurd q (by decide)
    · rw [upd_n e] at q
      rw [upd_n e]
      by_cases e2 : k = d
      · subst e2
        have := ec_upd (me := me) (d := k) (n := n) (v := -1) hn
        rw [h2, wE_m1, wE_n hi] at this
        have h5 := r5 k h q
        rw [upd_s, h5.1, pk_1 hep, show ec (upd me (32 * k + n) (-1)) k = ec me k - 1 by omega]
        exact ⟨rfl, by omega⟩
      · rw [upd_n e2, ec_same e2 hn]; exact r5 k h q
  · by_cases e : k = i
    · subst e; rw [upd_s]
    · rw [upd_n e] at q
      rw [upd_n e, upd_n (fun e => by rw [e, h1] at q; exact absurd q (by decide))]
      exact r6 k h q
  · have := hlu k
    rw [h2, wL_m1 h] at this
    by_cases e : k = i
    · subst e
      rw [wL_self] at this
      rw [upd_s, r7 k h, pk_1 (by omega)]
      exact congrArg nI (by omega)
    · rw [wL_ne h hi e] at this
      rw [upd_n e, r7 k h]
      exact congrArg nI (by omega)
  · have := hlu k
    rw [h2, wL_m1 h] at this
    by_cases e : k = i
    · subst e; rw [upd_s] at q; exact absurd q (by decide)
    · rw [wL_ne h hi e] at this
      rw [upd_n e] at q
      refine ⟨by have := (r9 k h0 h q).1; omega, fun j hj ee => ?_⟩
      by_cases ej : j = 32 * d + n
      · subst ej
        rw [upd_s] at ee
        exact absurd ee.symm (nI_m1 k (by omega))
      · rw [upd_n ej] at ee
        exact (r9 k h0 h q).2 j hj ee
theorem rel_stay (R : Rel kd sz lk hm tg vl mk ms mc me) {d n i : Nat} (hd : d < 16) (hn : n < 32) (hi1 : 1 ≤ i) (hi : i < 16) (h1 : mk d = 2) (h2 : me (32 * d + n) = nI i) (h4 : 2 ≤ lc me i) :
    Rel kd (upd sz d (sz d - 1)) (upd lk i (lk i - 1)) hm (upd tg (32 * d + n) 0) vl mk ms mc (upd me (32 * d + n) (-1)) := by
  obtain ⟨r1, r2, r3, r4, r5, r6, r7, r8, r9, r10⟩ := R
  have hep := ec_pos hn hi h2
  have hlu := fun (k : Nat) => lc_upd (me := me) (j := 32 * d + n) (k := k) (v := -1) (by omega)
  refine ⟨r1, r2, fun j h => ?_, fun k h q => ?_, fun k h q => ?_, fun k h q => ?_, fun k h => ?_, r8, fun k h0 h q => ?_, r10⟩
  · by_cases e : j = 32 * d + n
    · subst e
      rw [upd_s, upd_s]
      exact Or.inl ⟨rfl, rfl⟩
    · rw [upd_n e, upd_n e]; exact r3 j h
  · rw [upd_n (fun e => by rw [e, h1] at q; exact absurd q (by decide))]
    exact r4 k h q
  · by_cases e2 : k = d
    · subst e2
      have := ec_upd (me := me) (d := k) (n := n) (v := -1) hn
      rw [h2, wE_m1, wE_n hi] at this
      have h5 := r5 k h q
      rw [upd_s, h5.1, pk_1 hep, show ec (upd me (32 * k + n) (-1)) k = ec me k - 1 by omega]
      exact ⟨rfl, by omega⟩
    · rw [upd_n e2, ec_same e2 hn]; exact r5 k h q
  · rw [upd_n (fun e => by rw [e, h1] at q; exact absurd q (by decide))]
    exact r6 k h q
  · have := hlu k
    rw [h2, wL_m1 h] at this
    by_cases e : k = i
    · subst e
      rw [wL_self] at this
      rw [upd_s, r7 k h, pk_1 (by omega)]
      exact congrArg nI (by omega)
    · rw [wL_ne h hi e] at this
      rw [upd_n e, r7 k h]
      exact congrArg nI (by omega)
  · have := hlu k
    rw [h2, wL_m1 h] at this
    have e : k ≠ i := fun e => by
      have := (r9 k h0 h q).1
      rw [e] at this
      omega
    rw [wL_ne h hi e] at this
    refine ⟨by have := (r9 k h0 h q).1; omega, fun j hj ee => ?_⟩
    by_cases ej : j = 32 * d + n
    · subst ej
      rw [upd_s] at ee
      exact absurd ee.symm (nI_m1 k (by omega))
    · rw [upd_n ej] at ee
      exact (r9 k h0 h q).2 j hj ee
theorem rel_rename (R : Rel kd sz lk hm tg vl mk ms mc me) {d n t u i : Nat} (hd : d < 16) (hn : n < 32) (ht : t < 16) (hu : u < 32) (hi1 : 1 ≤ i) (hi : i < 16) (h1 : mk d = 2) (h1' : mk t = 2) (h2 : me (32 * d + n) = nI i) (h3 : me (32 * t + u) = -1) (h5 : t ≠ d → ec me t < 8) :
    Rel kd (upd (upd sz d (sz d - 1)) t (upd sz d (sz d - 1) t + 1)) (upd (upd lk i (lk i - 1)) i (upd lk i (lk i - 1) i + 1)) (upd hm i (nI t)) (upd (upd tg (32 * d + n) 0) (32 * t + u) (nI i)) vl mk ms mc (upd (upd me (32 * d + n) (-1)) (32 * t + u) (nI i)) := by
  obtain ⟨r1, r2, r3, r4, r5, r6, r7, r8, r9, r10⟩ := R
  have hep := ec_pos hn hi h2
  have hjj : 32 * t + u ≠ 32 * d + n := fun e => by
    rw [e, h2] at h3
    exact nI_m1 i (by omega) h3
  have hmi : ¬ mk i = 0 := by
    rcases r3 (32 * d + n) (by omega) with ⟨a, -⟩ | ⟨i', a1, a2, a3, a4, a5, a6⟩
    · rw [h2] at a; exact absurd a (nI_m1 i (by omega))
    · rw [h2] at a3
      rw [nI_inj (by omega) (by omega) a3]; exact a5
  have hme1 : upd me (32 * d + n) (-1) (32 * t + u) = -1 := by rw [upd_n hjj]; exact h3
  have hl1 := fun (k : Nat) => lc_upd (me := me) (j := 32 * d + n) (k := k) (v := -1) (by omega)
  have hl2 := fun (k : Nat) => lc_upd (me := upd me (32 * d + n) (-1)) (j := 32 * t + u) (k := k) (v := nI i) (by omega)
  have hlc : ∀ k, k < 16 → lc (upd (upd me (32 * d + n) (-1)) (32 * t + u) (nI i)) k = lc me k := fun k hk => by
    have a := hl1 k
    have b := hl2 k
    rw [h2, wL_m1 hk] at a
    rw [hme1, wL_m1 hk] at b
    omega
  have he1 : ec (upd me (32 * d + n) (-1)) d + 1 = ec me d := by
    have := ec_upd (me := me) (d := d) (n := n) (v := -1) hn
    rw [h2, wE_m1, wE_n hi] at this
    omega
  have he2 : ec (upd (upd me (32 * d + n) (-1)) (32 * t + u) (nI i)) t = ec (upd me (32 * d + n) (-1)) t + 1 := by
    have := ec_upd (me := upd me (32 * d + n) (-1)) (d := t) (n := u) (v := nI i) hu
    rw [hme1, wE_m1, wE_n hi] at this
    omega
  have hli : 1 ≤ lc me i := by
    have := sumN_ge (w := fun j => wL i (me j)) (j := 32 * d + n) (n := 512) (by omega)
    have h9 : wL i (me (32 * d + n)) = 1 := wL_1 h2
    rw [h9] at this
    exact this
  refine ⟨r1, r2, fun j h => ?_, fun k h q => ?_, fun k h q => ?_, fun k h q => ?_, fun k h => ?_, r8, fun k h0 h q => ?_, ?_⟩
  · by_cases e : j = 32 * t + u
    · subst e
      rw [upd_s, upd_s]
      exact Or.inr ⟨i, hi1, hi, rfl, rfl, hmi, by rw [show (32 * t + u) / 32 = t by omega]; exact h1'⟩
    · rw [upd_n e, upd_n e]
      by_cases e2 : j = 32 * d + n
      · subst e2
        rw [upd_s, upd_s]
        exact Or.inl ⟨rfl, rfl⟩
      · rw [upd_n e2, upd_n e2]; exact r3 j h
  · rw [upd_n (fun e => by rw [e, h1'] at q; exact absurd q (by decide)), upd_n (fun e => by rw [e, h1] at q; exact absurd q (by decide))]
    exact r4 k h q
  · have h5k := r5 k h q
    by_cases e : k = t
    · subst e
      rw [upd_s, he2]
      by_cases e2 : k = d
      · subst e2
        rw [upd_s, h5k.1, pk_1 hep, nI_1]
        exact ⟨congrArg nI (by omega), by omega⟩
      · rw [upd_n e2, h5k.1, nI_1, ec_same e2 hn]
        exact ⟨rfl, by have := h5 e2; omega⟩
    · rw [upd_n e, ec_same e hu]
      by_cases e2 : k = d
      · subst e2
        rw [upd_s, h5k.1, pk_1 hep]
        exact ⟨congrArg nI (by omega), by omega⟩
      · rw [upd_n e2, ec_same e2 hn]
        exact h5k
  · rw [upd_n (fun e => by rw [e, h1'] at q; exact absurd q (by decide)), upd_n (fun e => by rw [e, h1] at q; exact absurd q (by decide))]
    exact r6 k h q
  · rw [hlc k h]
    by_cases e : k = i
    · subst e
      rw [upd_s, upd_s, r7 k h, pk_1 hli, nI_1]
      exact congrArg nI (by omega)
    · rw [upd_n e, upd_n e]; exact r7 k h
  · rw [hlc k h]
    have h9 := r9 k h0 h q
    refine ⟨h9.1, fun j hj ee => ?_⟩
    by_cases e : k = i
    · subst e
      rw [upd_s]
      by_cases ej : j = 32 * t + u
      · subst ej
        rw [show (32 * t + u) / 32 = t by omega]
      · exfalso
        rw [upd_n ej] at ee
        have a := hl1 k
        rw [h2, wL_self, wL_m1 h] at a
        have := sumN_ge (w := fun j => wL k (upd me (32 * d + n) (-1) j)) (j := j) (n := 512) hj
        have h8 : wL k (upd me (32 * d + n) (-1) j) = 1 := wL_1 ee
        rw [h8] at this
        have : 1 ≤ lc (upd me (32 * d + n) (-1)) k := this
        omega
    · rw [upd_n e]
      by_cases ej : j = 32 * t + u
      · subst ej
        rw [upd_s] at ee
        exact absurd (nI_inj (by omega) (by omega) ee).symm e
      · rw [upd_n ej] at ee
        by_cases ej2 : j = 32 * d + n
        · subst ej2
          rw [upd_s] at ee
          exact absurd ee.symm (nI_m1 k (by omega))
        · rw [upd_n ej2] at ee
          exact h9.2 j hj ee
  · rw [upd_n (by omega)]; exact r10
theorem rel_size (R : Rel kd sz lk hm tg vl mk ms mc me) {a s : Nat} {ms' : Nat → Int32} (ha : a < 16) (hs : s ≤ 8) (h1 : mk a = 1) (h2 : ms' a = nI s) (h3 : ∀ k, k ≠ a → ms' k = ms k) : Rel kd (upd sz a (nI s)) lk hm tg vl mk ms' mc me := by
  obtain ⟨r1, r2, r3, r4, r5, r6, r7, r8, r9, r10⟩ := R
  refine ⟨r1, r2, r3, fun k h q => ?_, fun k h q => ?_, fun k h q => ?_, r7, r8, r9, r10⟩
  · by_cases e : k = a
    · subst e
      rw [upd_s, h2]
      exact ⟨rfl, s, hs, rfl⟩
    · rw [upd_n e, h3 k e]; exact r4 k h q
  · rw [upd_n (fun e => by rw [e, h1] at q; exact absurd q (by decide))]; exact r5 k h q
  · rw [upd_n (fun e => by rw [e, h1] at q; exact absurd q (by decide))]; exact r6 k h q
theorem rel_val (R : Rel kd sz lk hm tg vl mk ms mc me) {j : Nat} {v : Int32} : Rel kd sz lk hm tg (upd vl j v) mk ms (upd mc j v) me := by
  obtain ⟨r1, r2, r3, r4, r5, r6, r7, r8, r9, r10⟩ := R
  refine ⟨r1, r2, r3, r4, r5, r6, r7, fun k h => ?_, r9, r10⟩
  by_cases e : k = j
  · subst e; rw [upd_s, upd_s]
  · rw [upd_n e, upd_n e]; exact r8 k h
theorem lv_upd {mk' ms' : Nat → Int32} {a : Nat} (ha : a < 16) (h : ∀ k, k < 16 → k ≠ a → mk' k = mk k ∧ ms' k = ms k) : lvN mk' ms' + wS (mk a) (ms a) = lvN mk ms + wS (mk' a) (ms' a) :=
  sumN_upd (w := fun k => wS (mk k) (ms k)) (w' := fun k => wS (mk' k) (ms' k)) (j := a) (n := 16) ha (fun i hi e => by rw [(h i hi e).1, (h i hi e).2])
end REL
