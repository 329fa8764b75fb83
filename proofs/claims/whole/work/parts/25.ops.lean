/-! the six changes, on both sides -/
abbrev AR : Type := Nat → Int32
abbrev T6 : Type := AR × AR × AR × AR × AR × AR
def stepC (K a b x y : Int32) (akd asz alk ahm atg avl : AR) : Option T6 := if K = 0 then (bn5 (fX1_addNode a b x akd asz alk ahm atg) fun akd_103 asz_103 alk_103 ahm_103 atg_103 => some (akd_103, asz_103, alk_103, ahm_103, atg_103, avl)) else (if K = 1 then (bn4 (fX1_addEntry a b x asz alk ahm atg) fun asz_116 alk_116 ahm_116 atg_116 => some (akd, asz_116, alk_116, ahm_116, atg_116, avl)) else (if K = 2 then (bn4 (fX1_dropEntry a b akd asz alk atg) fun akd_127 asz_127 alk_127 atg_127 => some (akd_127, asz_127, alk_127, ahm, atg_127, avl)) else (if K = 3 then (bn4 (fX1_moveEntry a b x y asz alk ahm atg) fun asz_142 alk_142 ahm_142 atg_142 => some (akd, asz_142, alk_142, ahm_142, atg_142, avl)) else (if K = 4 then (bn2 (fX1_setInt a b x asz avl) fun asz_155 avl_155 => some (akd, asz_155, alk, ahm, atg, avl_155)) else (bn1 (fX1_setSize a b asz) fun asz_166 => some (akd, asz_166, alk, ahm, atg, avl))))))
def Far (mk ms mc me mk' ms' mc' me' : AR) : Prop := (∀ k, 16 ≤ k → mk' k = mk k ∧ ms' k = ms k) ∧ (∀ j, 512 ≤ j → me' j = me j) ∧ ∀ j, 128 ≤ j → mc' j = mc j
def OkC (K a b x y ans g : Int32) (kd sz lk tg : AR) : Prop :=
  (K = 0 ∧ ∃ d n f : Nat, d < 16 ∧ n < 32 ∧ 1 ≤ f ∧ f < 16 ∧ a = nI d ∧ b = nI n ∧ (x = 1 ∨ x = 2) ∧ kd d = 2 ∧ tg (32 * d + n) = 0 ∧ (∃ e, e < 8 ∧ sz d = nI e) ∧ kd f = 0 ∧ (∀ i, 1 ≤ i → i < f → ¬ kd i = 0) ∧ ans = nI f ∧ g = 1) ∨
  (K = 1 ∧ ∃ d n f : Nat, d < 16 ∧ n < 32 ∧ f < 16 ∧ a = nI d ∧ b = nI n ∧ x = nI f ∧ kd d = 2 ∧ kd f = 1 ∧ tg (32 * d + n) = 0 ∧ (∃ e, e < 8 ∧ sz d = nI e) ∧ ans = 0 ∧ g = 0) ∨
  (K = 2 ∧ ∃ d n i : Nat, d < 16 ∧ n < 32 ∧ 1 ≤ i ∧ i < 16 ∧ a = nI d ∧ b = nI n ∧ kd d = 2 ∧ tg (32 * d + n) = nI i ∧ (kd i = 2 → sz i = 0) ∧ ans = 0 ∧ ((lk i ≤ 1 ∧ g = -nI (wS (kd i) (sz i))) ∨ (¬ lk i ≤ 1 ∧ g = 0))) ∨
  (K = 3 ∧ ∃ d n t u i : Nat, d < 16 ∧ n < 32 ∧ t < 16 ∧ u < 32 ∧ 1 ≤ i ∧ i < 16 ∧ a = nI d ∧ b = nI n ∧ x = nI t ∧ y = nI u ∧ kd d = 2 ∧ kd t = 2 ∧ tg (32 * d + n) = nI i ∧ tg (32 * t + u) = 0 ∧ (t ≠ d → ∃ e, e < 8 ∧ sz t = nI e) ∧ ans = 0 ∧ g = 0) ∨
  (K = 4 ∧ ∃ f p s : Nat, f < 16 ∧ p < 8 ∧ p ≤ s ∧ s ≤ 8 ∧ a = nI f ∧ b = nI p ∧ kd f = 1 ∧ sz f = nI s ∧ ans = 0 ∧ g = if p = s then 1 else 0) ∨
  (K = 5 ∧ ∃ f p s : Nat, f < 16 ∧ p ≤ s ∧ s ≤ 8 ∧ a = nI f ∧ b = nI p ∧ kd f = 1 ∧ sz f = nI s ∧ ans = 0 ∧ g = nI p - nI s)
theorem OkC.congr {K a b x y ans g : Int32} {kd sz lk tg kd' sz' lk' tg' : AR} (h : OkC K a b x y ans g kd sz lk tg) (h16 : ∀ k, k < 16 → kd' k = kd k ∧ sz' k = sz k ∧ lk' k = lk k) (h512 : ∀ j, j < 512 → tg' j = tg j) : OkC K a b x y ans g kd' sz' lk' tg' := by
  rcases h with ⟨hK, d, n, f, q1, q2, q3, q4, q5, q6, q7, q8, q9, ⟨e, q10, q11⟩, q12, q13, q14⟩ | ⟨hK, d, n, f, q1, q2, q3, q4, q5, q6, q7, q8, q9, ⟨e, q10, q11⟩, q12⟩ | ⟨hK, d, n, i, q1, q2, q3, q4, q5, q6, q7, q8, q9, q10, q11⟩ | ⟨hK, d, n, t, u, i, q1, q2, q3, q4, q5, q6, q7, q8, q9, q10, q11, q12, q13, q14, q15, q16⟩ | ⟨hK, f, p, s, q1, q2, q3, q4, q5, q6, q7, q8, q9⟩ | ⟨hK, f, p, s, q1, q2, q3, q5, q6, q7, q8, q9⟩
  · exact Or.inl ⟨hK, d, n, f, q1, q2, q3, q4, q5, q6, q7, by rw [(h16 d q1).1]; exact q8, by rw [h512 _ (by omega)]; exact q9, ⟨e, q10, by rw [(h16 d q1).2.1]; exact q11⟩, by rw [(h16 f q4).1]; exact q12, fun i h1 h2 => by rw [(h16 i (by omega)).1]; exact q13 i h1 h2, q14⟩
  · exact Or.inr (Or.inl ⟨hK, d, n, f, q1, q2, q3, q4, q5, q6, by rw [(h16 d q1).1]; exact q7, by rw [(h16 f q3).1]; exact q8, by rw [h512 _ (by omega)]; exact q9, ⟨e, q10, by rw [(h16 d q1).2.1]; exact q11⟩, q12⟩)
  · exact Or.inr (Or.inr (Or.inl ⟨hK, d, n, i, q1, q2, q3, q4, q5, q6, by rw [(h16 d q1).1]; exact q7, by rw [h512 _ (by omega)]; exact q8, by rw [(h16 i q4).1, (h16 i q4).2.1]; exact q9, q10, by rw [(h16 i q4).1, (h16 i q4).2.1, (h16 i q4).2.2]; exact q11⟩))
  · exact Or.inr (Or.inr (Or.inr (Or.inl ⟨hK, d, n, t, u, i, q1, q2, q3, q4, q5, q6, q7, q8, q9, q10, by rw [(h16 d q1).1]; exact q11, by rw [(h16 t q3).1]; exact q12, by rw [h512 _ (by omega)]; exact q13, by rw [h512 _ (by omega)]; exact q14, by rw [(h16 t q3).2.1]; exact q15, q16⟩)))
  · exact Or.inr (Or.inr (Or.inr (Or.inr (Or.inl ⟨hK, f, p, s, q1, q2, q3, q4, q5, q6, by rw [(h16 f q1).1]; exact q7, by rw [(h16 f q1).2.1]; exact q8, q9⟩))))
  · exact Or.inr (Or.inr (Or.inr (Or.inr (Or.inr ⟨hK, f, p, s, q1, q2, q3, q5, q6, by rw [(h16 f q1).1]; exact q7, by rw [(h16 f q1).2.1]; exact q8, q9⟩))))
section OPS
variable {kd sz lk hm tg vl mk ms mc me : AR}
theorem Rel.same {kd' sz' lk' hm' tg' vl' : AR} (R : Rel kd sz lk hm tg vl mk ms mc me) (R' : Rel kd' sz' lk' hm' tg' vl' mk ms mc me) : (∀ k, k < 16 → kd' k = kd k ∧ sz' k = sz k ∧ lk' k = lk k) ∧ ∀ j, j < 512 → tg' j = tg j := by
  obtain ⟨r1, r2, r3, r4, r5, r6, r7, r8, r9, r10⟩ := R
  obtain ⟨s1, s2, s3, s4, s5, s6, s7, s8, s9, s10⟩ := R'
  refine ⟨fun k h => ⟨?_, ?_, ?_⟩, fun j h => ?_⟩
  · rw [(r1 k h).1, (s1 k h).1]
  · rcases (r1 k h).2 with q | q | q
    · rw [r6 k h q, s6 k h q]
    · rw [(r4 k h q).1, (s4 k h q).1]
    · rw [(r5 k h q).1, (s5 k h q).1]
  · rw [r7 k h, s7 k h]
  · rcases r3 j h with ⟨a1, a2⟩ | ⟨i, a1, a2, a3, a4, a5, a6⟩
    · rcases s3 j h with ⟨b1, b2⟩ | ⟨i', b1, b2, b3, b4, b5, b6⟩
      · rw [a2, b2]
      · rw [a1] at b3; exact absurd b3.symm (nI_m1 i' (by omega))
    · rcases s3 j h with ⟨b1, b2⟩ | ⟨i', b1, b2, b3, b4, b5, b6⟩
      · rw [b1] at a3; exact absurd a3.symm (nI_m1 i (by omega))
      · rw [a4, b4, ← a3, ← b3]
theorem tg0 (R : Rel kd sz lk hm tg vl mk ms mc me) {j : Nat} (hj : j < 512) (h : tg j = 0) : me j = -1 := by
  rcases R.2.2.1 j hj with ⟨a1, a2⟩ | ⟨i, a1, a2, a3, a4, a5, a6⟩
  · exact a1
  · rw [a4] at h; exact absurd h (nI_ne0 (by omega) (by omega))
theorem tgn (R : Rel kd sz lk hm tg vl mk ms mc me) {j i : Nat} (hj : j < 512) (h1 : 1 ≤ i) (hi : i < 16) (h : tg j = nI i) : me j = nI i := by
  rcases R.2.2.1 j hj with ⟨a1, a2⟩ | ⟨i', a1, a2, a3, a4, a5, a6⟩
  · rw [a2] at h; exact absurd h.symm (nI_ne0 (by omega) (by omega))
  · rw [a3, ← a4]; exact h
theorem addE {d n f : Nat} (hd : d < 16) (hn : n < 32) (hf : f < 16) : fX1_addEntry (nI d) (nI n) (nI f) sz lk hm tg = some (upd sz d (sz d + 1), upd lk f (lk f + 1), upd hm f (nI d), upd tg (32 * d + n) (nI f)) := by
  unfold fX1_addEntry
  simp only [slet_n]
  rw [awr_n (32 * d + n) (by omega) (by decide) (ix32 d n), ard_n d hd (by decide) rfl, awr_n d hd (by decide) rfl, ard_n f hf (by decide) rfl, awr_n f hf (by decide) rfl, awr_n f hf (by decide) rfl]
theorem tgt {d n : Nat} (hd : d < 16) (hn : n < 32) : fX1_target (nI d) (nI n) tg = some (tg (32 * d + n)) := by
  unfold fX1_target
  simp only [slet_n]
  rw [ard_n (32 * d + n) (by omega) (by decide) (ix32 d n)]
theorem takeE {d n i : Nat} (hd : d < 16) (hn : n < 32) (hi : i < 16) (h : tg (32 * d + n) = nI i) : fX1_takeEntry (nI d) (nI n) sz lk tg = some (nI i, upd sz d (sz d - 1), upd lk i (lk i - 1), upd tg (32 * d + n) 0) := by
  unfold fX1_takeEntry
  rw [bn1_s (tgt hd hn)]
  simp only [slet_n]
  rw [awr_n (32 * d + n) (by omega) (by decide) (ix32 d n), ard_n d hd (by decide) rfl, awr_n d hd (by decide) rfl, h, ard_n i hi (by decide) rfl, awr_n i hi (by decide) rfl]
end OPS
/-- one change, both sides: what the class's step makes of a related tree, and the reference's -/
def Does (K a b x y ans g : Int32) (kd sz lk hm tg vl : AR) : Prop := ∃ kd' sz' lk' hm' tg' vl' : AR, stepC K a b x y kd sz lk hm tg vl = some (kd', sz', lk', hm', tg', vl') ∧ nI (lvN kd sz) + g = nI (lvN kd' sz') ∧
  ∀ mk ms mc me : AR, Rel kd sz lk hm tg vl mk ms mc me → ∃ mk' ms' mc' me' : AR, fX3_perform K a b x y mk ms mc me = some (ans, mk', ms', mc', me') ∧ Rel kd' sz' lk' hm' tg' vl' mk' ms' mc' me' ∧ Far mk ms mc me mk' ms' mc' me'
theorem far_upd {f : AR} {k n : Nat} {v : Int32} (h : k < n) : ∀ j, n ≤ j → upd f k v j = f j := fun j hj => upd_n (by omega)
section DOES
variable {kd sz lk hm tg vl mk0 ms0 mc0 me0 : AR}
theorem does_create (R0 : Rel kd sz lk hm tg vl mk0 ms0 mc0 me0) {d n f : Nat} {x y : Int32} (hd : d < 16) (hn : n < 32) (hf1 : 1 ≤ f) (hf : f < 16) (hx : x = 1 ∨ x = 2) (h1 : kd d = 2) (h2 : tg (32 * d + n) = 0) (h3 : ∃ e, e < 8 ∧ sz d = nI e) (h4 : kd f = 0) (h5 : ∀ i, 1 ≤ i → i < f → ¬ kd i = 0) : Does 0 (nI d) (nI n) x y (nI f) 1 kd sz lk hm tg vl := by
  have hdf : d ≠ f := fun e => by rw [e, h4] at h1; exact absurd h1 (by decide)
  refine ⟨upd kd f x, upd sz d (sz d + 1), upd lk f (lk f + 1), upd hm f (nI d), upd tg (32 * d + n) (nI f), vl, ?_, ?_, ?_⟩
  · have hl : fX1_leastFreeNode kd = some (nI f) := lfn hf h4 (fun i hi e => by
      by_cases h0 : i = 0
      · subst h0
        rw [(R0.1 0 (by decide)).1, R0.2.1] at e
        exact absurd e (by decide)
      · exact h5 i (by omega) hi e)
    have : fX1_addNode (nI d) (nI n) x kd sz lk hm tg = some (upd kd f x, upd sz d (sz d + 1), upd lk f (lk f + 1), upd hm f (nI d), upd tg (32 * d + n) (nI f)) := by
      unfold fX1_addNode
      rw [bn1_s hl, awr_n f hf (by decide) rfl, bn4_s (addE hd hn hf)]
    unfold stepC
    rw [if_pos rfl, bn5_s this]
  · have := lv_upd (mk := kd) (ms := sz) (mk' := upd kd f x) (ms' := sz) (a := f) hf (fun k _ e => ⟨upd_n e, rfl⟩)
    rw [wS_0 h4, upd_s] at this
    have hz : sz f = 0 := R0.2.2.2.2.2.1 f hf (by rw [← (R0.1 f hf).1]; exact h4)
    have hw : wS x (sz f) = 1 := by
      rcases hx with e | e
      · exact wS_1 e (n := 0) (by rw [hz]; rfl) (by omega)
      · subst e; exact wS_2 (by decide) (by decide)
    have e2 : lvN (upd kd f x) (upd sz d (sz d + 1)) = lvN (upd kd f x) sz := sumN_congr (fun k hk => by
      by_cases e : k = d
      · subst e
        rw [upd_n hdf, h1, wS_2 (by decide) (by decide), wS_2 (by decide) (by decide)]
      · rw [upd_n (f := sz) e])
    rw [e2, show (1 : Int32) = nI 1 from rfl, nI_add]
    exact congrArg nI (by omega)
  · intro mk ms mc me R
    have k1 : ∀ k, k < 16 → kd k = mk k := fun k h => (R.1 k h).1
    have hmd : mk d = 2 := by rw [← k1 d hd]; exact h1
    have hec : ec me d < 8 := by
      obtain ⟨e, he, es⟩ := h3
      have h5' := R.2.2.2.2.1 d hd hmd
      rw [es] at h5'
      have := nI_inj (by omega) (by omega) h5'.1
      omega
    have hme := tg0 R (j := 32 * d + n) (by omega) h2
    have hmf : mk f = 0 := by rw [← k1 f hf]; exact h4
    have hla : fX3_leastAbsent mk = some (nI f) := la3 hf1 hf hmf (fun i a1 a2 => by rw [← k1 i (by omega)]; exact h5 i a1 a2)
    refine ⟨upd mk f x, upd ms f 0, mc, upd me (32 * d + n) (nI f), ?_, rel_create R hd hn hf1 hf hx hmd hme hec hmf, ⟨fun k hk => ⟨upd_n (by omega), upd_n (by omega)⟩, far_upd (by omega), fun _ _ => rfl⟩⟩
    unfold fX3_perform
    rw [if_pos rfl, bn1_s hla, awr_n f (by omega) (by decide) rfl, awr_n f (by omega) (by decide) rfl]
    simp only [slet_n]
    rw [awr_n (32 * d + n) (by omega) (by decide) (ix32' d n)]
theorem does_link {d n f : Nat} {y : Int32} (hd : d < 16) (hn : n < 32) (hf : f < 16) (h1 : kd d = 2) (h4 : kd f = 1) (h2 : tg (32 * d + n) = 0) (h3 : ∃ e, e < 8 ∧ sz d = nI e) : Does 1 (nI d) (nI n) (nI f) y 0 0 kd sz lk hm tg vl := by
  refine ⟨kd, upd sz d (sz d + 1), upd lk f (lk f + 1), upd hm f (nI d), upd tg (32 * d + n) (nI f), vl, ?_, ?_, ?_⟩
  · unfold stepC
    rw [if_neg (by decide), if_pos rfl, bn4_s (addE hd hn hf)]
  · have e2 : lvN kd (upd sz d (sz d + 1)) = lvN kd sz := sumN_congr (fun k hk => by
      by_cases e : k = d
      · subst e
        rw [h1, wS_2 (by decide) (by decide), wS_2 (by decide) (by decide)]
      · rw [upd_n (f := sz) e])
    rw [e2, Int32.add_zero]
  · intro mk ms mc me R
    have k1 : ∀ k, k < 16 → kd k = mk k := fun k h => (R.1 k h).1
    have hmd : mk d = 2 := by rw [← k1 d hd]; exact h1
    have hec : ec me d < 8 := by
      obtain ⟨e, he, es⟩ := h3
      have h5' := R.2.2.2.2.1 d hd hmd
      rw [es] at h5'
      have := nI_inj (by omega) (by omega) h5'.1
      omega
    have hme := tg0 R (j := 32 * d + n) (by omega) h2
    refine ⟨mk, ms, mc, upd me (32 * d + n) (nI f), ?_, rel_link R hd hn hf hmd hme hec (by rw [← k1 f hf]; exact h4), ⟨fun k hk => ⟨rfl, rfl⟩, far_upd (by omega), fun _ _ => rfl⟩⟩
    unfold fX3_perform
    rw [if_neg (by decide), if_pos rfl]
    simp only [slet_n]
    rw [awr_n (32 * d + n) (by omega) (by decide) (ix32' d n)]
end DOES
