/-! numbers, sums, and what the combinators are at known places -/
theorem nI_lt0 {n : Nat} (h : n < 2 ^ 31) : ¬ nI n < 0 := nI_pos h
theorem nI_m1 : ∀ n, n < 2 ^ 31 → ¬ nI n = -1 := by
  intro n h e
  have h1 : (nI n).toInt = (-1 : Int32).toInt := by rw [e]
  rw [nI_toInt h] at h1
  have h2 : (-1 : Int32).toInt = -1 := by decide
  omega
theorem nI_inj {a b : Nat} (ha : a < 2 ^ 31) (hb : b < 2 ^ 31) (h : nI a = nI b) : a = b := (nI_eq ha hb).mp h
theorem m1_lt0 : (-1 : Int32) < 0 := by decide
theorem m1_nge : ¬ (0 : Int32) ≤ -1 := by decide
theorem ard_n {β : Type} {f : Nat → Int32} {n : Nat} {i : Int32} {K : Int32 → Option β} (k : Nat) (h : k < n) (hn : n < 2 ^ 31) (hi : i = nI k) : ard f n i K = K (f k) := by
  subst hi
  unfold ard
  rw [if_neg (nI_in h hn), nI_clamp (by omega)]
theorem awr_n {β : Type} {f : Nat → Int32} {n : Nat} {i x : Int32} {K : (Nat → Int32) → Option β} (k : Nat) (h : k < n) (hn : n < 2 ^ 31) (hi : i = nI k) : awr f n i x K = K (upd f k x) := by
  subst hi
  unfold awr
  rw [if_neg (nI_in h hn), nI_clamp (by omega)]
theorem slet_n {α β : Type} {a : α} {K : α → Option β} : slet a K = K a := rfl
theorem ite_t {α : Sort _} {c : Prop} {hc : Decidable c} {A B : α} (h : c) : (@ite _ c hc A B) = A := if_pos h
theorem ite_f {α : Sort _} {c : Prop} {hc : Decidable c} {A B : α} (h : ¬ c) : (@ite _ c hc A B) = B := if_neg h
theorem ix32 (d n : Nat) : nI d * 32 + nI n = nI (32 * d + n) := by
  rw [show (32 : Int32) = nI 32 from rfl, pk_mul, nI_add, Nat.mul_comm]
theorem ix32' (d n : Nat) : 32 * nI d + nI n = nI (32 * d + n) := by
  rw [show (32 : Int32) = nI 32 from rfl, pk_mul, nI_add]
theorem ix8 (d n : Nat) : nI d * 8 + nI n = nI (8 * d + n) := by
  rw [show (8 : Int32) = nI 8 from rfl, pk_mul, nI_add, Nat.mul_comm]
theorem ix8' (d n : Nat) : 8 * nI d + nI n = nI (8 * d + n) := by
  rw [show (8 : Int32) = nI 8 from rfl, pk_mul, nI_add]
theorem ix16' (d n : Nat) : 16 * nI d + nI n = nI (16 * d + n) := by
  rw [show (16 : Int32) = nI 16 from rfl, pk_mul, nI_add]
theorem ix128' (d n : Nat) : 128 * nI d + nI n = nI (128 * d + n) := by
  rw [show (128 : Int32) = nI 128 from rfl, pk_mul, nI_add]
theorem ix512' (d n : Nat) : 512 * nI d + nI n = nI (512 * d + n) := by
  rw [show (512 : Int32) = nI 512 from rfl, pk_mul, nI_add]
theorem upd_s {f : Nat → Int32} {k : Nat} {x : Int32} : upd f k x k = x := pk_us
theorem upd_n {f : Nat → Int32} {k j : Nat} {x : Int32} (h : j ≠ k) : upd f k x j = f j := pk_un h
def sumN (w : Nat → Nat) : Nat → Nat
  | 0 => 0
  | n + 1 => sumN w n + w n
theorem sumN_congr {w w' : Nat → Nat} : ∀ {n : Nat}, (∀ j, j < n → w j = w' j) → sumN w n = sumN w' n
  | 0, _ => rfl
  | n + 1, h => by
    show sumN w n + w n = sumN w' n + w' n
    rw [sumN_congr (n := n) (fun j hj => h j (by omega)), h n (by omega)]
theorem sumN_upd {w w' : Nat → Nat} {j : Nat} : ∀ {n : Nat}, j < n → (∀ i, i < n → i ≠ j → w' i = w i) → sumN w' n + w j = sumN w n + w' j
  | 0, h, _ => absurd h (by omega)
  | n + 1, h, hw => by
    show sumN w' n + w' n + w j = sumN w n + w n + w' j
    by_cases e : j = n
    · subst e
      rw [sumN_congr (w := w') (w' := w) (n := j) (fun i hi => hw i (by omega) (by omega))]
      omega
    · have := sumN_upd (w := w) (w' := w') (j := j) (n := n) (by omega) (fun i hi hij => hw i (by omega) hij)
      have := hw n (by omega) (by omega)
      omega
theorem sumN_le {w : Nat → Nat} {c : Nat} : ∀ {n : Nat}, (∀ j, j < n → w j ≤ c) → sumN w n ≤ c * n
  | 0, _ => Nat.le_refl _
  | n + 1, h => by
    have h1 := sumN_le (w := w) (c := c) (n := n) (fun j hj => h j (by omega))
    have h2 := h n (by omega)
    show sumN w n + w n ≤ c * (n + 1)
    rw [Nat.mul_succ]
    omega
theorem sumN_ge {w : Nat → Nat} {j : Nat} : ∀ {n : Nat}, j < n → w j ≤ sumN w n
  | 0, h => absurd h (by omega)
  | n + 1, h => by
    show w j ≤ sumN w n + w n
    by_cases e : j = n
    · subst e; omega
    · have := sumN_ge (w := w) (j := j) (n := n) (by omega)
      omega
theorem sumN_zero {w : Nat → Nat} : ∀ {n : Nat}, (∀ j, j < n → w j = 0) → sumN w n = 0
  | 0, _ => rfl
  | n + 1, h => by
    show sumN w n + w n = 0
    rw [sumN_zero (n := n) (fun j hj => h j (by omega)), h n (by omega)]
theorem sumN_all {w : Nat → Nat} : ∀ {n : Nat}, (∀ j, j < n → w j ≤ 1) → sumN w n = n → ∀ j, j < n → w j = 1
  | 0, _, _, j, hj => absurd hj (by omega)
  | n + 1, h, e, j, hj => by
    have h1 := sumN_le (w := w) (c := 1) (n := n) (fun j hj => h j (by omega))
    have h2 := h n (by omega)
    have e' : sumN w n + w n = n + 1 := e
    by_cases hjn : j = n
    · subst hjn; omega
    · exact sumN_all (n := n) (fun j hj => h j (by omega)) (by omega) j (by omega)
theorem sumN_pos {w : Nat → Nat} : ∀ {n : Nat}, 0 < sumN w n → ∃ j, j < n ∧ 0 < w j
  | 0, h => absurd h (by show ¬ 0 < 0; omega)
  | n + 1, h => by
    have h' : 0 < sumN w n + w n := h
    by_cases e : 0 < w n
    · exact ⟨n, by omega, e⟩
    · obtain ⟨j, h1, h2⟩ := sumN_pos (w := w) (n := n) (by omega)
      exact ⟨j, by omega, h2⟩
/-! weights -/
def wE (x : Int32) : Nat := if x < 0 then 0 else 1
def wL (k : Nat) (x : Int32) : Nat := if x = nI k then 1 else 0
def wN (x : Int32) : Nat := if x = 0 then 0 else 1
def wS (k s : Int32) : Nat := if k = 0 then 0 else if k = 1 then 1 + s.toNatClampNeg else 1
def ec (en : Nat → Int32) (d : Nat) : Nat := sumN (fun b => wE (en (32 * d + b))) 32
def lc (en : Nat → Int32) (k : Nat) : Nat := sumN (fun j => wL k (en j)) 512
def lvN (kd sz : Nat → Int32) : Nat := sumN (fun k => wS (kd k) (sz k)) 16
def nc (kd : Nat → Int32) : Nat := sumN (fun k => wN (kd k)) 16
