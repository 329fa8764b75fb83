/-! the start of both objects -/
theorem lim_ok (x : Int32) : ∃ L, 16 ≤ L ∧ L ≤ 48 ∧ limX x = nI L ∧ limM x = nI L := by
  have key : ∃ k, 4 ≤ k ∧ k ≤ 8 ∧ clX x = nI k ∧ clM x = nI k := by
    unfold clX clM
    by_cases h4 : (4 : Int32) ≤ x
    · by_cases h8 : x ≤ 8
      · obtain ⟨k, hk, rfl⟩ := nI_of2 (x := x) (M := 8) (n := 8) (by decide) (fun q => by have := Int32.lt_of_le_of_lt h4 q; exact absurd this (by decide)) h8
        have hk4 : 4 ≤ k := (nI_leI (a := 4) (b := k) (by decide) (by omega)).mp h4
        refine ⟨k, hk4, hk, ?_, ?_⟩
        · rcases (show k = 4 ∨ k = 5 ∨ k = 6 ∨ k = 7 ∨ k = 8 by omega) with e | e | e | e | e <;> subst e <;> decide
        · rw [if_pos h4, if_pos h8]
      · have h8' : ¬ x < 8 := fun q => h8 (Int32.le_of_lt q)
        refine ⟨8, by omega, by omega, ?_, ?_⟩
        · rw [if_neg h8']; decide
        · rw [if_pos h4, if_neg h8]; rfl
    · have h3 : x < 4 := Int32.not_le.mp h4
      have h8 : x < 8 := Int32.lt_trans h3 (by decide)
      refine ⟨4, by omega, by omega, ?_, ?_⟩
      · rw [if_pos h8, if_neg (fun q => h4 (Int32.le_of_lt q))]; rfl
      · rw [if_neg h4]; rfl
  obtain ⟨k, h1, h2, h3, h4⟩ := key
  refine ⟨8 * (k - 2), by omega, by omega, ?_, ?_⟩
  · unfold limX
    rw [h3, show (2 : Int32) = nI 2 from rfl, pk_sub (by omega), show (8 : Int32) = nI 8 from rfl, pk_mul]
  · unfold limM
    rw [h4, show (2 : Int32) = nI 2 from rfl, pk_sub (by omega), show (8 : Int32) = nI 8 from rfl, pk_mul]
theorem rel_start : Rel (upd z0 0 2) z0 z0 z0 z0 z0 (upd z0 0 2) z0 z0 (em 1536) := by
  have hem : ∀ j, j < 512 → em 1536 j = -1 := fun j hj => if_pos (by omega)
  have hk : ∀ k, k ≠ 0 → upd z0 0 2 k = 0 := fun k h => upd_n h
  refine ⟨fun k h => ⟨rfl, ?_⟩, rfl, fun j h => Or.inl ⟨hem j h, rfl⟩, fun k h q => ?_, fun k h q => ?_, fun k h q => rfl, fun k h => ?_, fun j h => rfl, fun k h0 h q => ?_, rfl⟩
  · by_cases e : k = 0
    · subst e; exact Or.inr (Or.inr rfl)
    · exact Or.inl (hk k e)
  · by_cases e : k = 0
    · subst e; exact absurd q (by decide)
    · rw [hk k e] at q; exact absurd q (by decide)
  · have : ec (em 1536) k = 0 := sumN_zero (fun b hb => by rw [hem _ (by omega)]; rfl)
    rw [this]
    exact ⟨rfl, by omega⟩
  · have : lc (em 1536) k = 0 := sumN_zero (fun j hj => by rw [hem j hj]; exact wL_m1 h)
    rw [this]
    rfl
  · rw [hk k (by omega)] at q; exact absurd q (by decide)
theorem inv_start (x : Int32) : Inv (limX x) 1 0 (upd z0 0 2) z0 z0 z0 z0 z0 (upd z0 0 2) z0 z0 z0 z0 z0 0 z0 (limM x) 1 0 0 kd0 sz00 ct0 en0 z0 := by
  obtain ⟨L, h1, h2, h3, h4⟩ := lim_ok x
  have hlv : lvN (upd z0 0 2) z0 = 1 := by decide +kernel
  have R0 : Rel (upd z0 0 2) z0 z0 z0 z0 z0 kd0 sz00 ct0 en0 := rel_start.seg (fun k h => ⟨cp_at0 (by decide) h, cp_at0 (by decide) h⟩) (fun j h => cp_at0 (by decide) h) (fun j h => cp_at0 (by decide) h)
  have R1 : Rel (upd z0 0 2) z0 z0 z0 z0 z0 (sg 16 kd0) (sg 16 sz00) (sg 128 ct0) (sg 512 en0) := rel_start.seg (fun k h => ⟨by show cpk (upd z0 0 2) 16 0 1 16 (16 + k) = _; rw [cp_to1 h, Nat.mul_zero, Nat.zero_add], by show cpk z0 16 0 1 16 (16 + k) = _; rw [cp_to1 h]⟩) (fun j h => by show cpk (em 1536) 512 0 1 512 (512 + j) = _; rw [cp_to1 h, Nat.mul_zero, Nat.zero_add]) (fun j h => by show cpk z0 128 0 1 128 (128 + j) = _; rw [cp_to1 h])
  exact ⟨L, 1, 0, (upd z0 0 2, z0, z0, z0, z0, z0), ⟨by rw [h3, h4], rfl, rfl, rfl, h3, h1, h2, rfl, by omega, rfl, by omega⟩, R0, by rw [hlv]; omega, R1, by rw [hlv]; omega, fun j hj => absurd hj (by omega), rfl, R0⟩
