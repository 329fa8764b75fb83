/-! the relation between the class's tree and the reference's -/
def Rel (kd sz lk hm tg vl mk ms mc me : Nat → Int32) : Prop :=
  (∀ k, k < 16 → kd k = mk k ∧ (mk k = 0 ∨ mk k = 1 ∨ mk k = 2)) ∧
  mk 0 = 2 ∧
  (∀ j, j < 512 → (me j = -1 ∧ tg j = 0) ∨ ∃ i, 1 ≤ i ∧ i < 16 ∧ me j = nI i ∧ tg j = nI i ∧ ¬ mk i = 0 ∧ mk (j / 32) = 2) ∧
  (∀ k, k < 16 → mk k = 1 → sz k = ms k ∧ ∃ s, s ≤ 8 ∧ ms k = nI s) ∧
  (∀ k, k < 16 → mk k = 2 → sz k = nI (ec me k) ∧ ec me k ≤ 8) ∧
  (∀ k, k < 16 → mk k = 0 → sz k = 0) ∧
  (∀ k, k < 16 → lk k = nI (lc me k)) ∧
  (∀ j, j < 128 → vl j = mc j) ∧
  (∀ k, 1 ≤ k → k < 16 → mk k = 2 → lc me k = 1 ∧ ∀ j, j < 512 → me j = nI k → hm k = nI (j / 32)) ∧
  hm 0 = 0
theorem ec_congr {en en' : Nat → Int32} {d : Nat} (hd : d < 16) (h : ∀ j, j < 512 → en j = en' j) : ec en d = ec en' d := sumN_congr (fun b hb => by rw [h (32 * d + b) (by omega)])
theorem lc_congr {en en' : Nat → Int32} {k : Nat} (h : ∀ j, j < 512 → en j = en' j) : lc en k = lc en' k := sumN_congr (fun b hb => by rw [h b hb])
theorem Rel.congr {kd sz lk hm tg vl mk ms mc me kd' sz' lk' hm' tg' vl' mk' ms' mc' me' : Nat → Int32} (R : Rel kd sz lk hm tg vl mk ms mc me) (h16 : ∀ k, k < 16 → kd' k = kd k ∧ sz' k = sz k ∧ lk' k = lk k ∧ hm' k = hm k ∧ mk' k = mk k ∧ ms' k = ms k) (h512 : ∀ j, j < 512 → tg' j = tg j ∧ me' j = me j) (h128 : ∀ j, j < 128 → vl' j = vl j ∧ mc' j = mc j) : Rel kd' sz' lk' hm' tg' vl' mk' ms' mc' me' := by
  obtain ⟨r1, r2, r3, r4, r5, r6, r7, r8, r9, r10⟩ := R
  have hk : ∀ k, k < 16 → mk' k = mk k := fun k h => (h16 k h).2.2.2.2.1
  have hme : ∀ j, j < 512 → me' j = me j := fun j h => (h512 j h).2
  refine ⟨fun k h => ?_, ?_, fun j h => ?_, fun k h h1 => ?_, fun k h h1 => ?_, fun k h h1 => ?_, fun k h => ?_, fun j h => ?_, fun k h0 h h1 => ?_, ?_⟩
  · rw [(h16 k h).1, hk k h]; exact r1 k h
  · rw [hk 0 (by decide)]; exact r2
  · rw [hme j h, (h512 j h).1]
    rcases r3 j h with q | ⟨i, a1, a2, a3, a4, a5, a6⟩
    · exact Or.inl q
    · exact Or.inr ⟨i, a1, a2, a3, a4, by rw [hk i a2]; exact a5, by rw [hk (j / 32) (by omega)]; exact a6⟩
  · rw [hk k h] at h1
    rw [(h16 k h).2.1, (h16 k h).2.2.2.2.2]; exact r4 k h h1
  · rw [hk k h] at h1
    rw [(h16 k h).2.1, ec_congr h hme]; exact r5 k h h1
  · rw [hk k h] at h1
    rw [(h16 k h).2.1]; exact r6 k h h1
  · rw [(h16 k h).2.2.1, lc_congr hme]; exact r7 k h
  · rw [(h128 j h).1, (h128 j h).2]; exact r8 j h
  · rw [hk k h] at h1
    rw [lc_congr hme, (h16 k h).2.2.2.1]
    exact ⟨(r9 k h0 h h1).1, fun j hj e => (r9 k h0 h h1).2 j hj (by rw [← hme j hj]; exact e)⟩
  · rw [(h16 0 (by decide)).2.2.2.1]; exact r10
theorem ec_same {me : Nat → Int32} {d d' n : Nat} {v : Int32} (h : d' ≠ d) (hn : n < 32) : ec (upd me (32 * d + n) v) d' = ec me d' := sumN_congr (fun b hb => by rw [upd_n (by omega)])
theorem ec_upd {me : Nat → Int32} {d n : Nat} {v : Int32} (hn : n < 32) : ec (upd me (32 * d + n) v) d + wE (me (32 * d + n)) = ec me d + wE v := by
  have := sumN_upd (w := fun b => wE (me (32 * d + b))) (w' := fun b => wE (upd me (32 * d + n) v (32 * d + b))) (j := n) (n := 32) hn (fun i _ hi => by rw [upd_n (by omega)])
  rw [upd_s] at this
  exact this
theorem lc_upd {me : Nat → Int32} {j k : Nat} {v : Int32} (hj : j < 512) : lc (upd me j v) k + wL k (me j) = lc me k + wL k v := by
  have := sumN_upd (w := fun b => wL k (me b)) (w' := fun b => wL k (upd me j v b)) (j := j) (n := 512) hj (fun i _ hi => by rw [upd_n hi])
  rw [upd_s] at this
  exact this
theorem wE_m1 : wE (-1) = 0 := rfl
theorem wE_n {i : Nat} (h : i < 16) : wE (nI i) = 1 := wE_1 (nI_pos (by omega))
theorem wL_m1 {k : Nat} (h : k < 16) : wL k (-1) = 0 := wL_0 (fun e => nI_m1 k (by omega) e.symm)
theorem wL_self {k : Nat} : wL k (nI k) = 1 := wL_1 rfl
theorem wL_ne {k i : Nat} (hk : k < 16) (hi : i < 16) (h : k ≠ i) : wL k (nI i) = 0 := wL_0 (fun e => h (nI_inj (by omega) (by omega) e).symm)
section REL
variable {kd sz lk hm tg vl mk ms mc me : Nat → Int32}
theorem Rel.up (R : Rel kd sz lk hm tg vl mk ms mc me) : upOk mk hm me := by
  obtain ⟨r1, r2, r3, r4, r5, r6, r7, r8, r9, r10⟩ := R
  refine ⟨r10, fun j hj e => ?_, fun a h1 h2 h3 => ?_⟩
  · rcases r3 j hj with ⟨q, -⟩ | ⟨i, a1, a2, a3, -⟩
    · rw [q] at e; exact nI_m1 0 (by decide) e.symm
    · rw [a3] at e; have := nI_inj (by omega) (by decide) e; omega
  · obtain ⟨b1, b2⟩ := r9 a h1 h2 h3
    obtain ⟨j, c1, c2⟩ := sumN_pos (w := fun j => wL a (me j)) (n := 512) (by show 0 < lc me a; omega)
    have e : me j = nI a := by
      by_cases q : me j = nI a
      · exact q
      · rw [wL_0 q] at c2; omega
    have hm' := b2 j c1 e
    rcases r3 j c1 with ⟨q, -⟩ | ⟨i, a1, a2, a3, a4, a5, a6⟩
    · rw [q] at e; exact absurd e.symm (nI_m1 a (by omega))
    · refine ⟨j / 32, by omega, a6, hm', ⟨j, c1, e⟩, fun j' hj' e' => ?_⟩
      have := b2 j' hj' e'
      rw [hm'] at this
      exact (nI_inj (by omega) (by omega) this).symm
theorem Rel.szM (R : Rel kd sz lk hm tg vl mk ms mc me) : szOk mk ms := fun k hk h => (R.2.2.2.1 k hk h).2
theorem Rel.szC (R : Rel kd sz lk hm tg vl mk ms mc me) : szOk kd sz := fun k hk h => by
  rw [(R.1 k hk).1] at h
  obtain ⟨e, s, hs, es⟩ := R.2.2.2.1 k hk h
  exact ⟨s, hs, e.trans es⟩
theorem Rel.lv (R : Rel kd sz lk hm tg vl mk ms mc me) : lvN kd sz = lvN mk ms := sumN_congr (fun k hk => by
  obtain ⟨e, h⟩ := R.1 k hk
  rw [e]
  by_cases h1 : mk k = 1
  · rw [(R.2.2.2.1 k hk h1).1]
  · by_cases h0 : mk k = 0
    · rw [wS_0 h0, wS_0 h0]
    · rw [wS_2 h0 h1, wS_2 h0 h1])
/-- entries: of a place, both sides -/
theorem Rel.tgme (R : Rel kd sz lk hm tg vl mk ms mc me) {j : Nat} (hj : j < 512) : tg j = 0 ↔ me j < 0 := by
  rcases R.2.2.1 j hj with ⟨a, b⟩ | ⟨i, a1, a2, a3, a4, -⟩
  · rw [a, b]; exact ⟨fun _ => m1_lt0, fun _ => rfl⟩
  · rw [a3, a4]
    exact ⟨fun e => absurd e (nI_ne0 (by omega) (by omega)), fun e => absurd e (nI_pos (by omega))⟩
theorem Rel.none (R : Rel kd sz lk hm tg vl mk ms mc me) {f : Nat} (hf : f < 16) (h : mk f = 0) {j : Nat} (hj : j < 512) : ¬ me j = nI f := fun e => by
  rcases R.2.2.1 j hj with ⟨a, b⟩ | ⟨i, a1, a2, a3, a4, a5, -⟩
  · rw [a] at e; exact nI_m1 f (by omega) e.symm
  · rw [a3] at e
    have := nI_inj (by omega) (by omega) e
    subst this
    exact a5 h
theorem Rel.bare (R : Rel kd sz lk hm tg vl mk ms mc me) {f : Nat} (hf : f < 16) (h : ¬ mk f = 2) : ec me f = 0 := sumN_zero (fun b hb => by
  rcases R.2.2.1 (32 * f + b) (by omega) with ⟨a, -⟩ | ⟨i, a1, a2, a3, a4, a5, a6⟩
  · rw [a]; rfl
  · rw [show (32 * f + b) / 32 = f by omega] at a6
    exact absurd a6 h)
theorem rel_create (R : Rel kd sz lk hm tg vl mk ms mc me) {d n f : Nat} {x : Int32} (hd : d < 16) (hn : n < 32) (hf1 : 1 ≤ f) (hf : f < 16) (hx : x = 1 ∨ x = 2) (h1 : mk d = 2) (h2 : me (32 * d + n) = -1) (h3 : ec me d < 8) (h4 : mk f = 0) :
    Rel (upd kd f x) (upd sz d (sz d + 1)) (upd lk f (lk f + 1)) (upd hm f (nI d)) (upd tg (32 * d + n) (nI f)) vl (upd mk f x) (upd ms f 0) mc (upd me (32 * d + n) (nI f)) := by
  have hnone := fun {j : Nat} (hj : j < 512) => R.none hf h4 hj
  have hbare := R.bare hf (by rw [h4]; decide)
  obtain ⟨r1, r2, r3, r4, r5, r6, r7, r8, r9, r10⟩ := R
  have hdf : d ≠ f := fun e => by rw [e, h4] at h1; exact absurd h1 (by decide)
  have hx0 : ¬ x = 0 := by rcases hx with e | e <;> rw [e] <;> decide
  have hlf : lc me f = 0 := sumN_zero (fun j hj => wL_0 (hnone hj))
  refine ⟨fun k h => ?_, ?_, fun j h => ?_, fun k h q => ?_, fun k h q => ?_, fun k h q => ?_, fun k h => ?_, r8, fun k h0 h q => ?_, ?_⟩
  · by_cases e : k = f
    · subst e; rw [upd_s, upd_s]; exact ⟨rfl, Or.inr hx⟩
    · rw [upd_n e, upd_n e]; exact r1 k h
  · rw [upd_n (by omega)]; exact r2
  · by_cases e : j = 32 * d + n
    · subst e
      rw [upd_s, upd_s]
      exact Or.inr ⟨f, hf1, hf, rfl, rfl, by rw [upd_s]; exact hx0, by rw [show (32 * d + n) / 32 = d by omega, upd_n hdf]; exact h1⟩
    · rw [upd_n e, upd_n e]
      rcases r3 j h with a | ⟨i, a1, a2, a3, a4, a5, a6⟩
      · exact Or.inl a
      · refine Or.inr ⟨i, a1, a2, a3, a4, ?_, ?_⟩
        · rw [upd_n (fun e => a5 (by rw [e]; exact h4))]; exact a5
        · rw [upd_n (fun e => by rw [e, h4] at a6; exact absurd a6 (by decide))]; exact a6
  · by_cases e : k = f
    · subst e
      rw [upd_n (Ne.symm hdf), upd_s, r6 k h h4]
      exact ⟨rfl, 0, by omega, rfl⟩
    · rw [upd_n e] at q
      rw [upd_n (fun e => by rw [e, h1] at q; exact absurd q (by decide)), upd_n e]
      exact r4 k h q
  · by_cases e : k = f
    · subst e
      rw [upd_n (Ne.symm hdf), ec_same (Ne.symm hdf) hn, hbare, r6 k h h4]
      exact ⟨rfl, by omega⟩
    · rw [upd_n e] at q
      by_cases e2 : k = d
      · subst e2
        have := ec_upd (me := me) (d := k) (n := n) (v := nI f) hn
        rw [h2, wE_m1, wE_n hf] at this
        rw [upd_s, (r5 k h q).1, nI_1, show ec (upd me (32 * k + n) (nI f)) k = ec me k + 1 by omega]
        exact ⟨rfl, by omega⟩
      · rw [upd_n e2, ec_same e2 hn]; exact r5 k h q
  · by_cases e : k = f
    · subst e; rw [upd_s] at q; exact absurd q hx0
    · rw [upd_n e] at q
      rw [upd_n (fun e => by rw [e, h1] at q; exact absurd q (by decide))]
      exact r6 k h q
  · have := lc_upd (me := me) (j := 32 * d + n) (k := k) (v := nI f) (by omega)
    rw [h2, wL_m1 h] at this
    by_cases e : k = f
    · subst e
      rw [wL_self] at this
      rw [upd_s, r7 k h, nI_1]
      exact congrArg nI (by omega)
    · rw [wL_ne h hf e] at this
      rw [upd_n e, r7 k h]
      exact congrArg nI (by omega)
  · have := lc_upd (me := me) (j := 32 * d + n) (k := k) (v := nI f) (by omega)
    rw [h2, wL_m1 h] at this
    by_cases e : k = f
    · subst e
      rw [wL_self] at this
      refine ⟨by omega, fun j hj e => ?_⟩
      by_cases ej : j = 32 * d + n
      · subst ej
        rw [upd_s, show (32 * d + n) / 32 = d by omega]
      · rw [upd_n ej] at e
        exact absurd e (hnone hj)
    · rw [wL_ne h hf e] at this
      rw [upd_n e] at q
      refine ⟨by have := (r9 k h0 h q).1; omega, fun j hj ee => ?_⟩
      rw [upd_n e]
      by_cases ej : j = 32 * d + n
      · subst ej
        rw [upd_s] at ee
        exact absurd (nI_inj (by omega) (by omega) ee).symm e
      · rw [upd_n ej] at ee
        exact (r9 k h0 h q).2 j hj ee
  · rw [upd_n (by omega)]; exact r10
theorem rel_link (R : Rel kd sz lk hm tg vl mk ms mc me) {d n f : Nat} (hd : d < 16) (hn : n < 32) (hf : f < 16) (h1 : mk d = 2) (h2 : me (32 * d + n) = -1) (h3 : ec me d < 8) (h4 : mk f = 1) :
    Rel kd (upd sz d (sz d + 1)) (upd lk f (lk f + 1)) (upd hm f (nI d)) (upd tg (32 * d + n) (nI f)) vl mk ms mc (upd me (32 * d + n) (nI f)) := by
  obtain ⟨r1, r2, r3, r4, r5, r6, r7, r8, r9, r10⟩ := R
  have hdf : d ≠ f := fun e => by rw [e, h4] at h1; exact absurd h1 (by decide)
  have hf0 : f ≠ 0 := fun e => by rw [e, r2] at h4; exact absurd h4 (by decide)
  refine ⟨r1, r2, fun j h => ?_, fun k h q => ?_, fun k h q => ?_, fun k h q => ?_, fun k h => ?_, r8, fun k h0 h q => ?_, ?_⟩
  · by_cases e : j = 32 * d + n
    · subst e
      rw [upd_s, upd_s]
      exact Or.inr ⟨f, by omega, hf, rfl, rfl, by rw [h4]; decide, by rw [show (32 * d + n) / 32 = d by omega]; exact h1⟩
    · rw [upd_n e, upd_n e]; exact r3 j h
  · rw [upd_n (fun e => by rw [e, h1] at q; exact absurd q (by decide))]
    exact r4 k h q
  · by_cases e2 : k = d
    · subst e2
      have := ec_upd (me := me) (d := k) (n := n) (v := nI f) hn
      rw [h2, wE_m1, wE_n hf] at this
      rw [upd_s, (r5 k h q).1, nI_1, show ec (upd me (32 * k + n) (nI f)) k = ec me k + 1 by omega]
      exact ⟨rfl, by omega⟩
    · rw [upd_n e2, ec_same e2 hn]; exact r5 k h q
  · rw [upd_n (fun e => by rw [e, h1] at q; exact absurd q (by decide))]
    exact r6 k h q
  · have := lc_upd (me := me) (j := 32 * d + n) (k := k) (v := nI f) (by omega)
    rw [h2, wL_m1 h] at this
    by_cases e : k = f
    · subst e
      rw [wL_self] at this
      rw [upd_s, r7 k h, nI_1]
      exact congrArg nI (by omega)
    · rw [wL_ne h hf e] at this
      rw [upd_n e, r7 k h]
      exact congrArg nI (by omega)
  · have := lc_upd (me := me) (j := 32 * d + n) (k := k) (v := nI f) (by omega)
    rw [h2, wL_m1 h] at this
    have e : k ≠ f := fun e => by rw [e, h4] at q; exact absurd q (by decide)
    rw [wL_ne h hf e] at this
    refine ⟨by have := (r9 k h0 h q).1; omega, fun j hj ee => ?_⟩
    rw [upd_n e]
    by_cases ej : j = 32 * d + n
    · subst ej
      rw [upd_s] at ee
      exact absurd (nI_inj (by omega) (by omega) ee).symm e
    · rw [upd_n ej] at ee
      exact (r9 k h0 h q).2 j hj ee
  · rw [upd_n (Ne.symm hf0)]; exact r10
end REL
