/-! the loops of both sides, in closed form -/
theorem lt16 {k : Nat} (h : k < 16) : ¬ (16 : Int32) ≤ nI k := nI_ge h (by decide)
theorem lt32 {k : Nat} (h : k < 32) : ¬ (32 : Int32) ≤ nI k := nI_ge h (by decide)
theorem lt128 {k : Nat} (h : k < 128) : ¬ (128 : Int32) ≤ nI k := nI_ge h (by decide)
theorem lt512 {k : Nat} (h : k < 512) : ¬ (512 : Int32) ≤ nI k := nI_ge h (by decide)
/-- sizes of files are small -/
def szOk (kd sz : Nat → Int32) : Prop := ∀ k, k < 16 → kd k = 1 → ∃ s, s ≤ 8 ∧ sz k = nI s
theorem wS_1 {k s : Int32} {n : Nat} (h : k = 1) (hs : s = nI n) (hn : n ≤ 8) : wS k s = 1 + n := by
  subst h; subst hs
  unfold wS
  rw [if_neg (by decide), if_pos rfl, nI_clamp (by omega)]
theorem wS_0 {k s : Int32} (h : k = 0) : wS k s = 0 := by unfold wS; rw [if_pos h]
theorem wS_2 {k s : Int32} (h : ¬ k = 0) (h1 : ¬ k = 1) : wS k s = 1 := by unfold wS; rw [if_neg h, if_neg h1]
theorem live3_loop {kd sz : Nat → Int32} (hz : szOk kd sz) : ∀ (m k n : Nat), k + m = 16 → m < n → fX3_live_b4 kd sz n (nI (sumN (fun k => wS (kd k) (sz k)) k)) (nI k) = some (nI (lvN kd sz)) := by
  intro m
  induction m with
  | zero =>
    intro k n hk hn
    obtain ⟨n, rfl⟩ : ∃ n', n = n' + 1 := ⟨n - 1, by omega⟩
    have : k = 16 := by omega
    subst this
    rw [fX3_live_b4, if_pos (by decide)]
    rfl
  | succ m ih =>
    intro k n hk hn
    obtain ⟨n, rfl⟩ : ∃ n', n = n' + 1 := ⟨n - 1, by omega⟩
    have hk16 : k < 16 := by omega
    have e : sumN (fun k => wS (kd k) (sz k)) (k + 1) = sumN (fun k => wS (kd k) (sz k)) k + wS (kd k) (sz k) := rfl
    have ih1 := ih (k + 1) n (by omega) (by omega)
    rw [e] at ih1
    rw [fX3_live_b4, if_neg (lt16 hk16), ard_n k (by omega) (by decide) rfl]
    by_cases h0 : kd k = 0
    · rw [if_pos h0, slet_n, nI_1]
      rw [wS_0 h0] at ih1
      exact ih1
    · rw [if_neg h0, ard_n k (by omega) (by decide) rfl]
      by_cases h1 : kd k = 1
      · obtain ⟨s, hs, es⟩ := hz k hk16 h1
        rw [if_pos h1, ard_n k (by omega) (by decide) rfl, slet_n, slet_n, slet_n, nI_1, es, show (1 : Int32) = nI 1 from rfl, nI_add, nI_add]
        rw [wS_1 h1 es hs] at ih1
        exact ih1
      · rw [if_neg h1, slet_n, slet_n, slet_n, nI_1, show (1 + 0 : Int32) = nI 1 from rfl, nI_add]
        rw [wS_2 h0 h1] at ih1
        exact ih1
theorem live3 {kd sz : Nat → Int32} (hz : szOk kd sz) : fX3_live kd sz = some (nI (lvN kd sz)) := live3_loop hz 16 0 2000 rfl (by decide)
theorem blocks1 {kd sz : Nat → Int32} (hz : szOk kd sz) {k : Nat} (hk : k < 16) : fX1_blocks (nI k) kd sz = some (nI (wS (kd k) (sz k))) := by
  unfold fX1_blocks
  rw [ard_n k (by omega) (by decide) rfl]
  by_cases h0 : kd k = 0
  · rw [if_pos h0, wS_0 h0]; rfl
  · rw [if_neg h0]
    by_cases h1 : kd k = 1
    · obtain ⟨s, hs, es⟩ := hz k hk h1
      have : fX1_isFile (nI k) kd = some 1 := by
        unfold fX1_isFile
        rw [ard_n k (by omega) (by decide) rfl, if_pos h1]
      rw [bn1_s this, if_neg (by decide), ard_n k (by omega) (by decide) rfl, slet_n, wS_1 h1 es hs, es, show (1 : Int32) = nI 1 from rfl, nI_add]
    · have : fX1_isFile (nI k) kd = some 0 := by
        unfold fX1_isFile
        rw [ard_n k (by omega) (by decide) rfl, if_neg h1]
      rw [bn1_s this, if_pos rfl, wS_2 h0 h1]; rfl
theorem live1_loop {kd sz : Nat → Int32} (hz : szOk kd sz) : ∀ (m k n : Nat), k + m = 16 → m < n → fX1_live_b4 kd sz n (nI (sumN (fun k => wS (kd k) (sz k)) k)) (nI k) = some (nI (lvN kd sz)) := by
  intro m
  induction m with
  | zero =>
    intro k n hk hn
    obtain ⟨n, rfl⟩ : ∃ n', n = n' + 1 := ⟨n - 1, by omega⟩
    have : k = 16 := by omega
    subst this
    rw [fX1_live_b4, if_pos (by decide)]
    rfl
  | succ m ih =>
    intro k n hk hn
    obtain ⟨n, rfl⟩ : ∃ n', n = n' + 1 := ⟨n - 1, by omega⟩
    have hk16 : k < 16 := by omega
    have e : sumN (fun k => wS (kd k) (sz k)) (k + 1) = sumN (fun k => wS (kd k) (sz k)) k + wS (kd k) (sz k) := rfl
    have ih1 := ih (k + 1) n (by omega) (by omega)
    rw [e] at ih1
    rw [fX1_live_b4, if_neg (lt16 hk16), bn1_s (blocks1 hz hk16), slet_n, slet_n, nI_1, nI_add]
    exact ih1
theorem live1 {kd sz : Nat → Int32} (hz : szOk kd sz) : fX1_live kd sz = some (nI (lvN kd sz)) := live1_loop hz 16 0 2000 rfl (by decide)
theorem wN_0 {x : Int32} (h : x = 0) : wN x = 0 := by unfold wN; rw [if_pos h]
theorem wN_1 {x : Int32} (h : ¬ x = 0) : wN x = 1 := by unfold wN; rw [if_neg h]
theorem nodes3_loop {kd : Nat → Int32} : ∀ (m k n : Nat), k + m = 16 → m < n → fX3_nodes_b4 kd n (nI (sumN (fun k => wN (kd k)) k)) (nI k) = some (nI (nc kd)) := by
  intro m
  induction m with
  | zero =>
    intro k n hk hn
    obtain ⟨n, rfl⟩ : ∃ n', n = n' + 1 := ⟨n - 1, by omega⟩
    have : k = 16 := by omega
    subst this
    rw [fX3_nodes_b4, if_pos (by decide)]
    rfl
  | succ m ih =>
    intro k n hk hn
    obtain ⟨n, rfl⟩ : ∃ n', n = n' + 1 := ⟨n - 1, by omega⟩
    have hk16 : k < 16 := by omega
    have e : sumN (fun k => wN (kd k)) (k + 1) = sumN (fun k => wN (kd k)) k + wN (kd k) := rfl
    have ih1 := ih (k + 1) n (by omega) (by omega)
    rw [e] at ih1
    rw [fX3_nodes_b4, if_neg (lt16 hk16), ard_n k (by omega) (by decide) rfl]
    by_cases h0 : kd k = 0
    · rw [if_pos h0, slet_n, nI_1]
      rw [wN_0 h0] at ih1
      exact ih1
    · rw [if_neg h0, slet_n, slet_n, nI_1, nI_1]
      rw [wN_1 h0] at ih1
      exact ih1
theorem nodes3 {kd : Nat → Int32} : fX3_nodes kd = some (nI (nc kd)) := nodes3_loop 16 0 2000 rfl (by decide)
theorem nodes1_loop {kd : Nat → Int32} : ∀ (m k n : Nat), k + m = 16 → m < n → fX1_nodesThere_b4 kd n (nI (sumN (fun k => wN (kd k)) k)) (nI k) = some (nI (nc kd)) := by
  intro m
  induction m with
  | zero =>
    intro k n hk hn
    obtain ⟨n, rfl⟩ : ∃ n', n = n' + 1 := ⟨n - 1, by omega⟩
    have : k = 16 := by omega
    subst this
    rw [fX1_nodesThere_b4, if_pos (by decide)]
    rfl
  | succ m ih =>
    intro k n hk hn
    obtain ⟨n, rfl⟩ : ∃ n', n = n' + 1 := ⟨n - 1, by omega⟩
    have hk16 : k < 16 := by omega
    have e : sumN (fun k => wN (kd k)) (k + 1) = sumN (fun k => wN (kd k)) k + wN (kd k) := rfl
    have ih1 := ih (k + 1) n (by omega) (by omega)
    rw [e] at ih1
    rw [fX1_nodesThere_b4, if_neg (lt16 hk16), ard_n k (by omega) (by decide) rfl]
    by_cases h0 : kd k = 0
    · rw [if_pos h0, slet_n, nI_1]
      rw [wN_0 h0] at ih1
      exact ih1
    · rw [if_neg h0, slet_n, slet_n, nI_1, nI_1]
      rw [wN_1 h0] at ih1
      exact ih1
theorem nodes1 {kd : Nat → Int32} : fX1_nodesThere kd = some (nI (nc kd)) := nodes1_loop 16 0 2000 rfl (by decide)
theorem wE_0 {x : Int32} (h : x < 0) : wE x = 0 := by unfold wE; rw [if_pos h]
theorem wE_1 {x : Int32} (h : ¬ x < 0) : wE x = 1 := by unfold wE; rw [if_neg h]
theorem ec3_loop {en : Nat → Int32} {d : Nat} (hd : d < 16) : ∀ (m k n : Nat), k + m = 32 → m < n → fX3_entryCount_b4 en n (nI d) (nI (sumN (fun b => wE (en (32 * d + b))) k)) (nI k) = some (nI (ec en d)) := by
  intro m
  induction m with
  | zero =>
    intro k n hk hn
    obtain ⟨n, rfl⟩ : ∃ n', n = n' + 1 := ⟨n - 1, by omega⟩
    have : k = 32 := by omega
    subst this
    rw [fX3_entryCount_b4, if_pos (by decide)]
    rfl
  | succ m ih =>
    intro k n hk hn
    obtain ⟨n, rfl⟩ : ∃ n', n = n' + 1 := ⟨n - 1, by omega⟩
    have hk32 : k < 32 := by omega
    have e : sumN (fun b => wE (en (32 * d + b))) (k + 1) = sumN (fun b => wE (en (32 * d + b))) k + wE (en (32 * d + k)) := rfl
    have ih1 := ih (k + 1) n (by omega) (by omega)
    rw [e] at ih1
    rw [fX3_entryCount_b4, if_neg (lt32 hk32), slet_n, slet_n, ard_n (32 * d + k) (by omega) (by decide) (ix32' d k)]
    by_cases h0 : en (32 * d + k) < 0
    · rw [if_pos h0, slet_n, nI_1]
      rw [wE_0 h0] at ih1
      exact ih1
    · rw [if_neg h0, slet_n, slet_n, nI_1, nI_1]
      rw [wE_1 h0] at ih1
      exact ih1
theorem ec3 {en : Nat → Int32} {d : Nat} (hd : d < 16) : fX3_entryCount (nI d) en = some (nI (ec en d)) := ec3_loop hd 32 0 2000 rfl (by decide)
theorem wL_1 {k : Nat} {x : Int32} (h : x = nI k) : wL k x = 1 := by unfold wL; rw [if_pos h]
theorem wL_0 {k : Nat} {x : Int32} (h : ¬ x = nI k) : wL k x = 0 := by unfold wL; rw [if_neg h]
theorem lc3_loop {en : Nat → Int32} {i : Nat} : ∀ (m k n : Nat), k + m = 512 → m < n → fX3_links_b4 en n (nI i) (nI (sumN (fun j => wL i (en j)) k)) (nI k) = some (nI (lc en i)) := by
  intro m
  induction m with
  | zero =>
    intro k n hk hn
    obtain ⟨n, rfl⟩ : ∃ n', n = n' + 1 := ⟨n - 1, by omega⟩
    have : k = 512 := by omega
    subst this
    rw [fX3_links_b4, if_pos (by decide)]
    rfl
  | succ m ih =>
    intro k n hk hn
    obtain ⟨n, rfl⟩ : ∃ n', n = n' + 1 := ⟨n - 1, by omega⟩
    have hk512 : k < 512 := by omega
    have e : sumN (fun j => wL i (en j)) (k + 1) = sumN (fun j => wL i (en j)) k + wL i (en k) := rfl
    have ih1 := ih (k + 1) n (by omega) (by omega)
    rw [e] at ih1
    rw [fX3_links_b4, if_neg (lt512 hk512), ard_n k (by omega) (by decide) rfl]
    by_cases h0 : en k = nI i
    · rw [if_pos h0, slet_n, slet_n, nI_1, nI_1]
      rw [wL_1 h0] at ih1
      exact ih1
    · rw [if_neg h0, slet_n, nI_1]
      rw [wL_0 h0] at ih1
      exact ih1
theorem lc3 {en : Nat → Int32} {i : Nat} : fX3_links (nI i) en = some (nI (lc en i)) := lc3_loop 512 0 2000 rfl (by decide)
/-- the least node that isn't there -/
theorem lfn_loop {kd : Nat → Int32} {f : Nat} (hf : f < 16) (h0 : kd f = 0) : ∀ (m k n : Nat), k + m = f → m < n → (∀ i, k ≤ i → i < f → ¬ kd i = 0) → fX1_leastFreeNode_b2 kd n (nI k) = some (nI f) := by
  intro m
  induction m with
  | zero =>
    intro k n hk hn _
    obtain ⟨n, rfl⟩ : ∃ n', n = n' + 1 := ⟨n - 1, by omega⟩
    have : k = f := by omega
    subst this
    rw [fX1_leastFreeNode_b2, if_neg (lt16 hf), ard_n k (by omega) (by decide) rfl, if_pos h0]
  | succ m ih =>
    intro k n hk hn hi
    obtain ⟨n, rfl⟩ : ∃ n', n = n' + 1 := ⟨n - 1, by omega⟩
    rw [fX1_leastFreeNode_b2, if_neg (lt16 (by omega)), ard_n k (by omega) (by decide) rfl, if_neg (hi k (by omega) (by omega)), slet_n, nI_1]
    exact ih (k + 1) n (by omega) (by omega) (fun i h1 h2 => hi i (by omega) h2)
theorem lfn {kd : Nat → Int32} {f : Nat} (hf : f < 16) (h0 : kd f = 0) (hi : ∀ i, i < f → ¬ kd i = 0) : fX1_leastFreeNode kd = some (nI f) := lfn_loop hf h0 f 0 2000 (by omega) (by omega) (fun i _ h => hi i h)
theorem lfn_none_loop {kd : Nat → Int32} (hi : ∀ i, i < 16 → ¬ kd i = 0) : ∀ (m k n : Nat), k + m = 16 → m < n → fX1_leastFreeNode_b2 kd n (nI k) = some 0 := by
  intro m
  induction m with
  | zero =>
    intro k n hk hn
    obtain ⟨n, rfl⟩ : ∃ n', n = n' + 1 := ⟨n - 1, by omega⟩
    have : k = 16 := by omega
    subst this
    rw [fX1_leastFreeNode_b2, if_pos (by decide)]
  | succ m ih =>
    intro k n hk hn
    obtain ⟨n, rfl⟩ : ∃ n', n = n' + 1 := ⟨n - 1, by omega⟩
    rw [fX1_leastFreeNode_b2, if_neg (lt16 (by omega)), ard_n k (by omega) (by decide) rfl, if_neg (hi k (by omega)), slet_n, nI_1]
    exact ih (k + 1) n (by omega) (by omega)
theorem lfn_none {kd : Nat → Int32} (hi : ∀ i, i < 16 → ¬ kd i = 0) : fX1_leastFreeNode kd = some 0 := lfn_none_loop hi 16 0 2000 rfl (by decide)
theorem la_loop {kd : Nat → Int32} {f : Nat} (hf : f < 16) (h0 : kd f = 0) : ∀ (m k n : Nat), k + m = f → m < n → (∀ i, k ≤ i → i < f → ¬ kd i = 0) → fX3_leastAbsent_b2 kd n (nI k) = some (nI f) := by
  intro m
  induction m with
  | zero =>
    intro k n hk hn _
    obtain ⟨n, rfl⟩ : ∃ n', n = n' + 1 := ⟨n - 1, by omega⟩
    have : k = f := by omega
    subst this
    rw [fX3_leastAbsent_b2, if_neg (lt16 hf), ard_n k (by omega) (by decide) rfl, if_pos h0]
  | succ m ih =>
    intro k n hk hn hi
    obtain ⟨n, rfl⟩ : ∃ n', n = n' + 1 := ⟨n - 1, by omega⟩
    rw [fX3_leastAbsent_b2, if_neg (lt16 (by omega)), ard_n k (by omega) (by decide) rfl, if_neg (hi k (by omega) (by omega)), slet_n, nI_1]
    exact ih (k + 1) n (by omega) (by omega) (fun i h1 h2 => hi i (by omega) h2)
theorem la3 {kd : Nat → Int32} {f : Nat} (h1 : 1 ≤ f) (hf : f < 16) (h0 : kd f = 0) (hi : ∀ i, 1 ≤ i → i < f → ¬ kd i = 0) : fX3_leastAbsent kd = some (nI f) := la_loop hf h0 (f - 1) 1 2000 (by omega) (by omega) hi
/-- the k-th name -/
theorem nth_loop {tg kd en : Nat → Int32} {d : Nat} (hd : d < 16) (x : Int32) (ht : ∀ b, b < 32 → (tg (32 * d + b) = 0 ↔ en (32 * d + b) < 0)) : ∀ (m k n : Nat) (y : Int32), k + m = 32 → m < n → ∃ r, fX1_nthName_b5 tg n (nI d) x y (nI k) = some r ∧ fX3_entry_b27 kd en n (nI d) x y (nI k) = some r := by
  intro m
  induction m with
  | zero =>
    intro k n y hk hn
    obtain ⟨n, rfl⟩ : ∃ n', n = n' + 1 := ⟨n - 1, by omega⟩
    have : k = 32 := by omega
    subst this
    rw [fX1_nthName_b5, fX3_entry_b27, if_pos (by decide), if_pos (by decide)]
    exact ⟨_, rfl, rfl⟩
  | succ m ih =>
    intro k n y hk hn
    obtain ⟨n, rfl⟩ : ∃ n', n = n' + 1 := ⟨n - 1, by omega⟩
    have hk32 : k < 32 := by omega
    have hT : fX1_target (nI d) (nI k) tg = some (tg (32 * d + k)) := by
      unfold fX1_target
      rw [slet_n, slet_n, ard_n (32 * d + k) (by omega) (by decide) (ix32 d k)]
    rw [fX1_nthName_b5, fX3_entry_b27, if_neg (lt32 hk32), if_neg (lt32 hk32), bn1_s hT]
    simp only [slet_n]
    rw [ard_n (n := 1536) (32 * d + k) (by omega) (by decide) (ix32' d k)]
    by_cases h0 : tg (32 * d + k) = 0
    · have h1 := (ht k hk32).mp h0
      have h2 : ¬ (0 : Int32) ≤ en (32 * d + k) := Int32.not_le.mpr h1
      rw [if_pos h0, if_neg h2, nI_1]
      exact ih (k + 1) n y (by omega) (by omega)
    · have h1 : ¬ en (32 * d + k) < 0 := fun q => h0 ((ht k hk32).mpr q)
      have h2 : (0 : Int32) ≤ en (32 * d + k) := Int32.not_lt.mp h1
      rw [if_neg h0, if_pos h2]
      by_cases h3 : y = x
      · rw [if_pos h3, if_pos h3]
        exact ⟨_, rfl, rfl⟩
      · rw [if_neg h3, if_neg h3, nI_1]
        exact ih (k + 1) n (y + 1) (by omega) (by omega)
