/-! the invariant between the class's object and the reference's; syncs -/
def RelT (C : T6) (mk ms mc me : AR) : Prop := Rel C.1 C.2.1 C.2.2.1 C.2.2.2.1 C.2.2.2.2.1 C.2.2.2.2.2 mk ms mc me
def OpOk (L : Nat) (K a b x y : Int32) (C C' : T6) : Prop := stepC K a b x y C.1 C.2.1 C.2.2.1 C.2.2.2.1 C.2.2.2.2.1 C.2.2.2.2.2 = some C' ∧ lvN C'.1 C'.2.1 + 8 ≤ L ∧
  ∀ mk ms mc me : AR, RelT C mk ms mc me → ∃ (r : Int32) (mk' ms' mc' me' : AR), fX3_perform K a b x y mk ms mc me = some (r, mk', ms', mc', me') ∧ RelT C' mk' ms' mc' me' ∧ Far mk ms mc me mk' ms' mc' me'
def Chain (L : Nat) (rw : AR) (C0 : T6) : Nat → T6 → Prop
  | 0, C => C = C0
  | c + 1, C => ∃ C1, Chain L rw C0 c C1 ∧ OpOk L (rw (5 * c)) (rw (5 * c + 1)) (rw (5 * c + 2)) (rw (5 * c + 3)) (rw (5 * c + 4)) C1 C
theorem Chain.congr {L : Nat} {rw rw' : AR} {C0 : T6} : ∀ {c : Nat} {C : T6}, Chain L rw C0 c C → (∀ j, j < 5 * c → rw' j = rw j) → Chain L rw' C0 c C
  | 0, _, h, _ => h
  | c + 1, C, h, e => by
    obtain ⟨C1, h1, h2⟩ := h
    refine ⟨C1, Chain.congr h1 (fun j hj => e j (by omega)), ?_⟩
    rw [e _ (by omega), e _ (by omega), e _ (by omega), e _ (by omega), e _ (by omega)]
    exact h2
theorem Chain.pre {L : Nat} {rw : AR} {C0 : T6} : ∀ {c : Nat} {C : T6}, Chain L rw C0 c C → ∀ j, j ≤ c → ∃ C', Chain L rw C0 j C'
  | 0, C, h, j, hj => by
    have : j = 0 := by omega
    subst this
    exact ⟨C, h⟩
  | c + 1, C, h, j, hj => by
    by_cases e : j = c + 1
    · subst e; exact ⟨C, h⟩
    · obtain ⟨C1, h1, h2⟩ := h
      exact Chain.pre h1 j (by omega)
theorem Chain.le {L : Nat} {rw : AR} {C0 : T6} (h0 : lvN C0.1 C0.2.1 + 8 ≤ L) : ∀ {c : Nat} {C : T6}, Chain L rw C0 c C → lvN C.1 C.2.1 + 8 ≤ L
  | 0, C, h => by
    have : C = C0 := h
    rw [this]; exact h0
  | c + 1, C, h => by
    obtain ⟨C1, h1, h2⟩ := h
    exact h2.2.1
abbrev sg (n : Nat) (f : AR) : AR := fun k => f (n + k)
def Inv (lim kpt syn : Int32) (tk ts tl th tt tv uk us ul uh ut uv : AR) (ln : Int32) (rw : AR) (mlim mkpt msyn mcn : Int32) (mk ms mc me ch : AR) : Prop :=
  ∃ (L κ c : Nat) (Cn : T6), (mlim = lim ∧ mkpt = kpt ∧ msyn = syn ∧ mcn = ln ∧ lim = nI L ∧ 16 ≤ L ∧ L ≤ 48 ∧ kpt = nI κ ∧ κ ≤ L ∧ ln = nI c ∧ 2 * c + 1 ≤ κ) ∧ Rel tk ts tl th tt tv mk ms mc me ∧ lvN tk ts + 8 ≤ L ∧ Rel uk us ul uh ut uv (sg 16 mk) (sg 16 ms) (sg 128 mc) (sg 512 me) ∧ lvN uk us + 8 ≤ L ∧ (∀ j, j < 5 * c → rw j = ch j) ∧ Chain L rw (uk, us, ul, uh, ut, uv) c Cn ∧ RelT Cn mk ms mc me
theorem acp16 {β : Type} {f g : AR} {K : AR → Option β} : acp f g 16 16 0 0 16 K = K (va_cpy f g 0 0 16) := by
  unfold acp
  rw [if_neg (by decide)]
  rfl
theorem acp128 {β : Type} {f g : AR} {K : AR → Option β} : acp f g 128 128 0 0 128 K = K (va_cpy f g 0 0 128) := by
  unfold acp
  rw [if_neg (by decide)]
  rfl
theorem acp512 {β : Type} {f g : AR} {K : AR → Option β} : acp f g 512 512 0 0 512 K = K (va_cpy f g 0 0 512) := by
  unfold acp
  rw [if_neg (by decide)]
  rfl
theorem copyFrom1 (bk bs bl bh bt bv ak as al ah at_ av : AR) : fX1_copyFrom bk bs bl bh bt bv ak as al ah at_ av = some (va_cpy bk ak 0 0 16, va_cpy bs as 0 0 16, va_cpy bl al 0 0 16, va_cpy bh ah 0 0 16, va_cpy bt at_ 0 0 512, va_cpy bv av 0 0 128) := by
  unfold fX1_copyFrom
  rw [acp16, acp16, acp16, acp16, acp512, acp128]
theorem Rel.cpy {kd sz lk hm tg vl mk ms mc me : AR} (R : Rel kd sz lk hm tg vl mk ms mc me) (ak as al ah at_ av : AR) : Rel (va_cpy kd ak 0 0 16) (va_cpy sz as 0 0 16) (va_cpy lk al 0 0 16) (va_cpy hm ah 0 0 16) (va_cpy tg at_ 0 0 512) (va_cpy vl av 0 0 128) mk ms mc me :=
  R.congr (fun k h => ⟨sb_cpy0 h, sb_cpy0 h, sb_cpy0 h, sb_cpy0 h, rfl, rfl⟩) (fun j h => ⟨sb_cpy0 h, rfl⟩) (fun j h => ⟨sb_cpy0 h, rfl⟩)
theorem lvN_congr {kd sz kd' sz' : AR} (h : ∀ k, k < 16 → kd' k = kd k ∧ sz' k = sz k) : lvN kd' sz' = lvN kd sz := sumN_congr (fun k hk => by rw [(h k hk).1, (h k hk).2])
theorem lv_pos {kd sz lk hm tg vl mk ms mc me : AR} (R : Rel kd sz lk hm tg vl mk ms mc me) : 1 ≤ lvN kd sz := by
  have := sumN_ge (w := fun k => wS (kd k) (sz k)) (j := 0) (n := 16) (by decide)
  have h2 : wS (kd 0) (sz 0) = 1 := by
    rw [(R.1 0 (by decide)).1, R.2.1]
    exact wS_2 (by decide) (by decide)
  rw [h2] at this
  exact this
/-- segment o of the copied arrays, f to t -/
theorem Rel.seg {kd sz lk hm tg vl mk ms mc me mk' ms' mc' me' : AR} (R : Rel kd sz lk hm tg vl mk ms mc me) (h16 : ∀ k, k < 16 → mk' k = mk k ∧ ms' k = ms k) (h512 : ∀ j, j < 512 → me' j = me j) (h128 : ∀ j, j < 128 → mc' j = mc j) : Rel kd sz lk hm tg vl mk' ms' mc' me' :=
  R.congr (fun k h => ⟨rfl, rfl, rfl, rfl, (h16 k h).1, (h16 k h).2⟩) (fun j h => ⟨rfl, h512 j h⟩) (fun j h => ⟨rfl, h128 j h⟩)
theorem cp_to0 {g : AR} {n f a : Nat} (ha : a < n) : cpk g n f 0 n a = g (n * f + a) := by
  have := cpk_to (g := g) (n := n) (f := f) (t := 0) ha
  rw [Nat.mul_zero, Nat.zero_add] at this
  exact this
theorem cp_to1 {g : AR} {n f a : Nat} (ha : a < n) : cpk g n f 1 n (n + a) = g (n * f + a) := by
  have := cpk_to (g := g) (n := n) (f := f) (t := 1) ha
  rw [Nat.mul_one] at this
  exact this
theorem cp_at0 {g : AR} {n f t a : Nat} (h : 0 ≠ t) (ha : a < n) : cpk g n f t n a = g a := by
  have := cpk_else (g := g) (n := n) (f := f) (t := t) (o := 0) h ha
  rw [Nat.mul_zero, Nat.zero_add] at this
  exact this
theorem cp_at1 {g : AR} {n f t a : Nat} (h : 1 ≠ t) (ha : a < n) : cpk g n f t n (n + a) = g (n + a) := by
  have := cpk_else (g := g) (n := n) (f := f) (t := t) (o := 1) h ha
  rw [Nat.mul_one] at this
  exact this
theorem copy01 (kd sz ct en : AR) : fX3_copy 0 1 kd sz ct en = some (cpk kd 16 0 1 16, cpk sz 16 0 1 16, cpk ct 128 0 1 128, cpk en 512 0 1 512) := copy3 0 1 (by decide) (by decide) (by decide) kd sz ct en
theorem copy02 (kd sz ct en : AR) : fX3_copy 0 2 kd sz ct en = some (cpk kd 16 0 2 16, cpk sz 16 0 2 16, cpk ct 128 0 2 128, cpk en 512 0 2 512) := copy3 0 2 (by decide) (by decide) (by decide) kd sz ct en
theorem copy20 (kd sz ct en : AR) : fX3_copy 2 0 kd sz ct en = some (cpk kd 16 2 0 16, cpk sz 16 2 0 16, cpk ct 128 2 0 128, cpk en 512 2 0 512) := copy3 2 0 (by decide) (by decide) (by decide) kd sz ct en
theorem copy10 (kd sz ct en : AR) : fX3_copy 1 0 kd sz ct en = some (cpk kd 16 1 0 16, cpk sz 16 1 0 16, cpk ct 128 1 0 128, cpk en 512 1 0 512) := copy3 1 0 (by decide) (by decide) (by decide) kd sz ct en
/-- the reference's settle, and the class's fresh start -/
theorem settle3 {kd sz lk hm tg vl mk ms mc me : AR} (R : Rel kd sz lk hm tg vl mk ms mc me) (kp cn : Int32) : ∃ mk' ms' mc' me' : AR, fX3_settle kp cn mk ms mc me = some (nI (lvN kd sz), 0, mk', ms', mc', me') ∧ Rel kd sz lk hm tg vl mk' ms' mc' me' ∧ Rel kd sz lk hm tg vl (sg 16 mk') (sg 16 ms') (sg 128 mc') (sg 512 me') := by
  have R' : Rel kd sz lk hm tg vl (cpk mk 16 0 1 16) (cpk ms 16 0 1 16) (cpk mc 128 0 1 128) (cpk me 512 0 1 512) := R.seg (fun k h => ⟨cp_at0 (by decide) h, cp_at0 (by decide) h⟩) (fun j h => cp_at0 (by decide) h) (fun j h => cp_at0 (by decide) h)
  refine ⟨cpk mk 16 0 1 16, cpk ms 16 0 1 16, cpk mc 128 0 1 128, cpk me 512 0 1 512, ?_, R', ?_⟩
  · unfold fX3_settle
    rw [bn4_s (copy01 mk ms mc me), bn1_s (live3 R'.szM), ← R'.lv]
  · refine R.seg (fun k h => ⟨?_, ?_⟩) (fun j h => ?_) (fun j h => ?_)
    · show cpk mk 16 0 1 16 (16 + k) = _
      rw [cp_to1 h, Nat.mul_zero, Nat.zero_add]
    · show cpk ms 16 0 1 16 (16 + k) = _
      rw [cp_to1 h, Nat.mul_zero, Nat.zero_add]
    · show cpk me 512 0 1 512 (512 + j) = _
      rw [cp_to1 h, Nat.mul_zero, Nat.zero_add]
    · show cpk mc 128 0 1 128 (128 + j) = _
      rw [cp_to1 h, Nat.mul_zero, Nat.zero_add]
theorem fresh1 {kd sz lk hm tg vl mk ms mc me : AR} (R : Rel kd sz lk hm tg vl mk ms mc me) (kp ln : Int32) : fX2_startAfresh kd sz kp ln = some (nI (lvN kd sz), 0) := by
  unfold fX2_startAfresh
  rw [bn1_s (show fX0_clear ln = some 0 from rfl), bn1_s (live1 R.szC)]
section INV
variable {lim kpt syn : Int32} {tk ts tl th tt tv uk us ul uh ut uv : AR} {ln : Int32} {rw : AR} {mlim mkpt msyn mcn : Int32} {mk ms mc me ch : AR}
theorem inv_sync (I : Inv lim kpt syn tk ts tl th tt tv uk us ul uh ut uv ln rw mlim mkpt msyn mcn mk ms mc me ch) : ∃ (k' : Int32) (uk' us' ul' uh' ut' uv' mk' ms' mc' me' : AR), fX2_countedSync tk ts tl th tt tv kpt syn uk us ul uh ut uv ln = some (k', syn + 1, uk', us', ul', uh', ut', uv', 0) ∧ fX3_sync mkpt msyn mcn mk ms mc me = some (k', k', msyn + 1, 0, mk', ms', mc', me') ∧ Inv lim k' (syn + 1) tk ts tl th tt tv uk' us' ul' uh' ut' uv' 0 rw mlim k' (msyn + 1) 0 mk' ms' mc' me' ch ∧ k' = nI (lvN tk ts) := by
  obtain ⟨L, κ, c, Cn, ⟨a1, a2, a3, a4, a5, a6, a7, a8, a9, a10, a11⟩, R, hl, Ru, hlu, hrw, hch, hCn⟩ := I
  obtain ⟨mk', ms', mc', me', s1, s2, s3⟩ := settle3 R mkpt mcn
  refine ⟨nI (lvN tk ts), va_cpy tk uk 0 0 16, va_cpy ts us 0 0 16, va_cpy tl ul 0 0 16, va_cpy th uh 0 0 16, va_cpy tt ut 0 0 512, va_cpy tv uv 0 0 128, mk', ms', mc', me', ?_, ?_, ?_, rfl⟩
  · unfold fX2_countedSync
    rw [bn6_s (copyFrom1 tk ts tl th tt tv uk us ul uh ut uv), bn2_s (fresh1 R kpt ln), slet_n]
  · unfold fX3_sync
    rw [bn6_s s1, slet_n]
  · refine ⟨L, lvN tk ts, 0, (va_cpy tk uk 0 0 16, va_cpy ts us 0 0 16, va_cpy tl ul 0 0 16, va_cpy th uh 0 0 16, va_cpy tt ut 0 0 512, va_cpy tv uv 0 0 128), ⟨a1, rfl, by rw [a3], rfl, a5, a6, a7, rfl, by omega, rfl, by have := lv_pos R; omega⟩, s2, hl, s3.cpy _ _ _ _ _ _, ?_, fun j hj => absurd hj (by omega), rfl, s2.cpy _ _ _ _ _ _⟩
    rw [lvN_congr (fun k h => ⟨sb_cpy0 h, sb_cpy0 h⟩)]
    exact hl
end INV
