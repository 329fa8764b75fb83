/-! the reference's copy of a segment, and the way up -/
def cpk (g : Nat → Int32) (n f t k : Nat) : Nat → Int32 := fun j => if n * t ≤ j ∧ j < n * t + k then g (n * f + (j - n * t)) else g j
theorem cpk_0 {g : Nat → Int32} {n f t : Nat} : cpk g n f t 0 = g := by
  funext j
  unfold cpk
  rw [if_neg (by omega)]
theorem cpk_upd {g : Nat → Int32} {n f t k : Nat} : upd (cpk g n f t k) (n * t + k) (g (n * f + k)) = cpk g n f t (k + 1) := by
  funext j
  unfold upd cpk
  by_cases h : j = n * t + k
  · subst h
    rw [if_pos rfl, if_pos (by omega), Nat.add_sub_cancel_left]
  · rw [if_neg h]
    by_cases h2 : n * t ≤ j ∧ j < n * t + k
    · rw [if_pos h2, if_pos (by omega)]
    · rw [if_neg h2, if_neg (by omega)]
theorem cpk_far {g : Nat → Int32} {n f t k a : Nat} (h : f ≠ t) (hk : k ≤ n) (ha : a < n) : cpk g n f t k (n * f + a) = g (n * f + a) := by
  unfold cpk
  rw [if_neg]
  intro ⟨h1, h2⟩
  rcases Nat.lt_or_gt_of_ne h with h3 | h3
  · have : n * (f + 1) ≤ n * t := Nat.mul_le_mul_left n h3
    rw [Nat.mul_succ] at this
    omega
  · have : n * (t + 1) ≤ n * f := Nat.mul_le_mul_left n h3
    rw [Nat.mul_succ] at this
    omega
theorem cp99_loop {f t : Nat} (hf : f ≤ 2) (ht : t ≤ 2) (hne : f ≠ t) {kd sz ct en : Nat → Int32} : ∀ (m k n : Nat), k + m = 512 → m < n → fX3_copy_b99 n (nI f) (nI t) (nI k) kd sz ct (cpk en 512 f t k) = some (kd, sz, ct, cpk en 512 f t 512) := by
  intro m
  induction m with
  | zero =>
    intro k n hk hn
    obtain ⟨n, rfl⟩ : ∃ n', n = n' + 1 := ⟨n - 1, by omega⟩
    have : k = 512 := by omega
    subst this
    rw [fX3_copy_b99, if_pos (by decide)]
  | succ m ih =>
    intro k n hk hn
    obtain ⟨n, rfl⟩ : ∃ n', n = n' + 1 := ⟨n - 1, by omega⟩
    have hk2 : k < 512 := by omega
    rw [fX3_copy_b99, if_neg (lt512 hk2)]
    simp only [slet_n]
    rw [ard_n (512 * f + k) (by omega) (by decide) (ix512' f k), cpk_far hne (by omega) hk2, awr_n (512 * t + k) (by omega) (by decide) (ix512' t k), cpk_upd, nI_1]
    exact ih (k + 1) n (by omega) (by omega)
theorem cp60_loop {f t : Nat} (hf : f ≤ 2) (ht : t ≤ 2) (hne : f ≠ t) {kd sz ct en : Nat → Int32} : ∀ (m k n : Nat), k + m = 128 → m < n → fX3_copy_b60 n (nI f) (nI t) (nI k) kd sz (cpk ct 128 f t k) en = some (kd, sz, cpk ct 128 f t 128, cpk en 512 f t 512) := by
  intro m
  induction m with
  | zero =>
    intro k n hk hn
    obtain ⟨n, rfl⟩ : ∃ n', n = n' + 1 := ⟨n - 1, by omega⟩
    have : k = 128 := by omega
    subst this
    rw [fX3_copy_b60, if_pos (by decide)]
    have := cp99_loop hf ht hne (kd := kd) (sz := sz) (ct := cpk ct 128 f t 128) (en := en) 512 0 2000 rfl (by decide)
    rw [cpk_0] at this
    exact this
  | succ m ih =>
    intro k n hk hn
    obtain ⟨n, rfl⟩ : ∃ n', n = n' + 1 := ⟨n - 1, by omega⟩
    have hk2 : k < 128 := by omega
    rw [fX3_copy_b60, if_neg (lt128 hk2)]
    simp only [slet_n]
    rw [ard_n (128 * f + k) (by omega) (by decide) (ix128' f k), cpk_far hne (by omega) hk2, awr_n (128 * t + k) (by omega) (by decide) (ix128' t k), cpk_upd, nI_1]
    exact ih (k + 1) n (by omega) (by omega)
theorem cp2_loop {f t : Nat} (hf : f ≤ 2) (ht : t ≤ 2) (hne : f ≠ t) {kd sz ct en : Nat → Int32} : ∀ (m k n : Nat), k + m = 16 → m < n → fX3_copy_b2 n (nI f) (nI t) (nI k) (cpk kd 16 f t k) (cpk sz 16 f t k) ct en = some (cpk kd 16 f t 16, cpk sz 16 f t 16, cpk ct 128 f t 128, cpk en 512 f t 512) := by
  intro m
  induction m with
  | zero =>
    intro k n hk hn
    obtain ⟨n, rfl⟩ : ∃ n', n = n' + 1 := ⟨n - 1, by omega⟩
    have : k = 16 := by omega
    subst this
    rw [fX3_copy_b2, if_pos (by decide)]
    have := cp60_loop hf ht hne (kd := cpk kd 16 f t 16) (sz := cpk sz 16 f t 16) (ct := ct) (en := en) 128 0 2000 rfl (by decide)
    rw [cpk_0] at this
    exact this
  | succ m ih =>
    intro k n hk hn
    obtain ⟨n, rfl⟩ : ∃ n', n = n' + 1 := ⟨n - 1, by omega⟩
    have hk2 : k < 16 := by omega
    rw [fX3_copy_b2, if_neg (lt16 hk2)]
    simp only [slet_n]
    rw [ard_n (16 * f + k) (by omega) (by decide) (ix16' f k), cpk_far hne (by omega) hk2, awr_n (16 * t + k) (by omega) (by decide) (ix16' t k), cpk_upd]
    rw [ard_n (16 * f + k) (by omega) (by decide) (ix16' f k), cpk_far hne (by omega) hk2, awr_n (16 * t + k) (by omega) (by decide) (ix16' t k), cpk_upd, nI_1]
    exact ih (k + 1) n (by omega) (by omega)
theorem copy3 (f t : Nat) (hf : f ≤ 2) (ht : t ≤ 2) (hne : f ≠ t) (kd sz ct en : Nat → Int32) : fX3_copy (nI f) (nI t) kd sz ct en = some (cpk kd 16 f t 16, cpk sz 16 f t 16, cpk ct 128 f t 128, cpk en 512 f t 512) := by
  have := cp2_loop hf ht hne (kd := kd) (sz := sz) (ct := ct) (en := en) 16 0 2000 rfl (by decide)
  rw [cpk_0, cpk_0] at this
  exact this
/-- what a copied segment holds -/
theorem cpk_to {g : Nat → Int32} {n f t a : Nat} (ha : a < n) : cpk g n f t n (n * t + a) = g (n * f + a) := by
  unfold cpk
  rw [if_pos (by omega), Nat.add_sub_cancel_left]
theorem cpk_else {g : Nat → Int32} {n f t o a : Nat} (h : o ≠ t) (ha : a < n) : cpk g n f t n (n * o + a) = g (n * o + a) := by
  unfold cpk
  by_cases q : n * t ≤ n * o + a ∧ n * o + a < n * t + n
  · exfalso
    rcases Nat.lt_or_gt_of_ne h with h3 | h3
    · have : n * (o + 1) ≤ n * t := Nat.mul_le_mul_left n h3
      rw [Nat.mul_succ] at this
      omega
    · have : n * (t + 1) ≤ n * o := Nat.mul_le_mul_left n h3
      rw [Nat.mul_succ] at this
      omega
  · rw [if_neg q]
/-! the way up -/
theorem upA_loop {en : Nat → Int32} {a q : Nat} (hq : q < 16) (x2 x4 : Int32) (k5 : Int32 → Int32 → Int32 → Option Int32) (hu : ∀ j, j < 512 → en j = nI a → j / 32 = q) : ∀ (m k n : Nat) (up : Int32), k + m = 512 → m < n → (up = nI q ∨ (up = -1 ∧ ∃ j, k ≤ j ∧ j < 512 ∧ en j = nI a)) → fX3_liesIn_b25 en k5 n x2 (nI a) x4 up (nI k) = k5 x2 (nI q) (x4 + 1) := by
  intro m
  induction m with
  | zero =>
    intro k n up hk hn hup
    obtain ⟨n, rfl⟩ : ∃ n', n = n' + 1 := ⟨n - 1, by omega⟩
    have : k = 512 := by omega
    subst this
    rcases hup with rfl | ⟨-, j, h1, h2, -⟩
    · rw [fX3_liesIn_b25, if_pos (by decide), if_pos (nI_pos' (by omega)), slet_n]
    · omega
  | succ m ih =>
    intro k n up hk hn hup
    obtain ⟨n, rfl⟩ : ∃ n', n = n' + 1 := ⟨n - 1, by omega⟩
    have hk2 : k < 512 := by omega
    rw [fX3_liesIn_b25, if_neg (lt512 hk2), ard_n k (by omega) (by decide) rfl]
    by_cases h0 : en k = nI a
    · rw [if_pos h0]
      simp only [slet_n]
      rw [show (32 : Int32) = nI 32 from rfl, pk_div (by omega) (by decide) (by decide), hu k hk2 h0, nI_1]
      exact ih (k + 1) n (nI q) (by omega) (by omega) (Or.inl rfl)
    · rw [if_neg h0, slet_n, nI_1]
      refine ih (k + 1) n up (by omega) (by omega) ?_
      rcases hup with h | ⟨h, j, h1, h2, h3⟩
      · exact Or.inl h
      · refine Or.inr ⟨h, j, ?_, h2, h3⟩
        have : j ≠ k := fun e => h0 (e ▸ h3)
        omega
theorem upB_loop {en : Nat → Int32} {a : Nat} (x2 x4 : Int32) (k5 : Int32 → Int32 → Int32 → Option Int32) (hu : ∀ j, j < 512 → ¬ en j = nI a) : ∀ (m k n : Nat), k + m = 512 → m < n → fX3_liesIn_b25 en k5 n x2 (nI a) x4 (-1) (nI k) = some 0 := by
  intro m
  induction m with
  | zero =>
    intro k n hk hn
    obtain ⟨n, rfl⟩ : ∃ n', n = n' + 1 := ⟨n - 1, by omega⟩
    have : k = 512 := by omega
    subst this
    rw [fX3_liesIn_b25, if_pos (by decide), if_neg (by decide)]
  | succ m ih =>
    intro k n hk hn
    obtain ⟨n, rfl⟩ : ∃ n', n = n' + 1 := ⟨n - 1, by omega⟩
    have hk2 : k < 512 := by omega
    rw [fX3_liesIn_b25, if_neg (lt512 hk2), ard_n k (by omega) (by decide) rfl, if_neg (hu k hk2), slet_n, nI_1]
    exact ih (k + 1) n (by omega) (by omega)
/-- a directory's home is that of its entries, and a directory; the root has none -/
def upOk (kd hm en : Nat → Int32) : Prop := hm 0 = 0 ∧ (∀ j, j < 512 → ¬ en j = nI 0) ∧ ∀ a, 1 ≤ a → a < 16 → kd a = 2 → ∃ q, q < 16 ∧ kd q = 2 ∧ hm a = nI q ∧ (∃ j, j < 512 ∧ en j = nI a) ∧ ∀ j, j < 512 → en j = nI a → j / 32 = q
theorem lieRoot_loop {hm : Nat → Int32} {o : Nat} (ho : 1 ≤ o ∧ o < 16) (h0 : hm 0 = 0) : ∀ (m g n : Nat), g + m = 16 → m < n → fX1_liesIn_b5 hm n (nI o) (nI 0) (nI g) = some 0 := by
  intro m
  induction m with
  | zero =>
    intro g n hk hn
    obtain ⟨n, rfl⟩ : ∃ n', n = n' + 1 := ⟨n - 1, by omega⟩
    have : g = 16 := by omega
    subst this
    rw [fX1_liesIn_b5, if_pos (by decide)]
  | succ m ih =>
    intro g n hk hn
    obtain ⟨n, rfl⟩ : ∃ n', n = n' + 1 := ⟨n - 1, by omega⟩
    rw [fX1_liesIn_b5, if_neg (lt16 (by omega)), if_neg (fun e => by have := nI_inj (by decide) (by omega) e; omega), ard_n 0 (by decide) (by decide) rfl, slet_n, h0, nI_1]
    exact ih (g + 1) n (by omega) (by omega)
theorem lie_loop {kd hm en : Nat → Int32} (hup : upOk kd hm en) {o : Nat} (ho : 1 ≤ o ∧ o < 16) : ∀ (m g n a : Nat), g + m = 16 → m < n → a < 16 → kd a = 2 → ∃ r, fX1_liesIn_b5 hm n (nI o) (nI a) (nI g) = some r ∧ fX3_liesIn_b5 en n (nI o) (nI a) (nI g) = some r := by
  intro m
  induction m with
  | zero =>
    intro g n a hk hn ha hd
    obtain ⟨n, rfl⟩ : ∃ n', n = n' + 1 := ⟨n - 1, by omega⟩
    have : g = 16 := by omega
    subst this
    rw [fX1_liesIn_b5, fX3_liesIn_b5, if_pos (by decide), if_pos (by decide)]
    exact ⟨_, rfl, rfl⟩
  | succ m ih =>
    intro g n a hk hn ha hd
    obtain ⟨n, rfl⟩ : ∃ n', n = n' + 1 := ⟨n - 1, by omega⟩
    by_cases hz : a = 0
    · subst hz
      refine ⟨0, lieRoot_loop ho hup.1 (m + 1) g (n + 1) hk hn, ?_⟩
      rw [fX3_liesIn_b5, if_neg (lt16 (by omega)), if_neg (fun e => by have := nI_inj (by decide) (by omega) e; omega)]
      exact upB_loop _ _ _ hup.2.1 512 0 2000 rfl (by decide)
    · obtain ⟨q, hq, hkq, hh, hex, hall⟩ := hup.2.2 a (by omega) ha hd
      rw [fX1_liesIn_b5, fX3_liesIn_b5, if_neg (lt16 (by omega)), if_neg (lt16 (by omega))]
      by_cases he : nI a = nI o
      · rw [if_pos he, if_pos he]
        exact ⟨_, rfl, rfl⟩
      · rw [if_neg he, if_neg he, ard_n a ha (by decide) rfl, slet_n, hh, nI_1]
        obtain ⟨r, h1, h2⟩ := ih (g + 1) n q (by omega) (by omega) hq hkq
        refine ⟨r, h1, ?_⟩
        obtain ⟨j, hj, hj2⟩ := hex
        have := upA_loop hq (nI o) (nI g) (fX3_liesIn_b5 en n) hall 512 0 2000 (-1) rfl (by decide) (Or.inr ⟨rfl, j, by omega, hj, hj2⟩)
        rw [nI_1] at this
        exact this.trans h2
theorem lies {kd hm en : Nat → Int32} (hup : upOk kd hm en) {o a : Nat} (ho : 1 ≤ o ∧ o < 16) (ha : a < 16) (hd : kd a = 2) : ∃ r, fX1_liesIn (nI a) (nI o) hm = some r ∧ fX3_liesIn (nI a) (nI o) en = some r := lie_loop hup ho 16 0 2000 a rfl (by decide) ha hd
theorem lieF_loop {kd hm en : Nat → Int32} (hup : upOk kd hm en) {o : Nat} (ho : o < 16) (hf : ¬ kd o = 2) : ∀ (m g n a : Nat), g + m = 16 → m < n → a < 16 → kd a = 2 → fX1_liesIn_b5 hm n (nI o) (nI a) (nI g) = some 0 := by
  intro m
  induction m with
  | zero =>
    intro g n a hk hn ha hd
    obtain ⟨n, rfl⟩ : ∃ n', n = n' + 1 := ⟨n - 1, by omega⟩
    have : g = 16 := by omega
    subst this
    rw [fX1_liesIn_b5, if_pos (by decide)]
  | succ m ih =>
    intro g n a hk hn ha hd
    obtain ⟨n, rfl⟩ : ∃ n', n = n' + 1 := ⟨n - 1, by omega⟩
    rw [fX1_liesIn_b5, if_neg (lt16 (by omega)), if_neg (fun e => by have := nI_inj (by omega) (by omega) e; subst this; exact hf hd), ard_n a ha (by decide) rfl, slet_n, nI_1]
    by_cases hz : a = 0
    · subst hz
      rw [hup.1]
      exact ih (g + 1) n 0 (by omega) (by omega) ha hd
    · obtain ⟨q, hq, hkq, hh, -, -⟩ := hup.2.2 a (by omega) ha hd
      rw [hh]
      exact ih (g + 1) n q (by omega) (by omega) hq hkq
theorem liesF {kd hm en : Nat → Int32} (hup : upOk kd hm en) {o a : Nat} (ho : o < 16) (hf : ¬ kd o = 2) (ha : a < 16) (hd : kd a = 2) : fX1_liesIn (nI a) (nI o) hm = some 0 := lieF_loop hup ho hf 16 0 2000 a rfl (by decide) ha hd
