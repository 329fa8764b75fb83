/-! a change that nothing objects to: room, sync by itself, the change and its row, on both sides -/
def upd5 (f : AR) (c : Nat) (K a b x y : Int32) : AR := upd (upd (upd (upd (upd f (5 * c) K) (5 * c + 1) a) (5 * c + 2) b) (5 * c + 3) x) (5 * c + 4) y
theorem upd5_lo {f : AR} {c : Nat} {K a b x y : Int32} {j : Nat} (h : j < 5 * c) : upd5 f c K a b x y j = f j := by
  unfold upd5
  rw [upd_n (by omega), upd_n (by omega), upd_n (by omega), upd_n (by omega), upd_n (by omega)]
theorem upd5_0 {f : AR} {c : Nat} {K a b x y : Int32} : upd5 f c K a b x y (5 * c) = K := by
  unfold upd5
  rw [upd_n (by omega), upd_n (by omega), upd_n (by omega), upd_n (by omega), upd_s]
theorem upd5_1 {f : AR} {c : Nat} {K a b x y : Int32} : upd5 f c K a b x y (5 * c + 1) = a := by
  unfold upd5
  rw [upd_n (by omega), upd_n (by omega), upd_n (by omega), upd_s]
theorem upd5_2 {f : AR} {c : Nat} {K a b x y : Int32} : upd5 f c K a b x y (5 * c + 2) = b := by
  unfold upd5
  rw [upd_n (by omega), upd_n (by omega), upd_s]
theorem upd5_3 {f : AR} {c : Nat} {K a b x y : Int32} : upd5 f c K a b x y (5 * c + 3) = x := by
  unfold upd5
  rw [upd_n (by omega), upd_s]
theorem upd5_4 {f : AR} {c : Nat} {K a b x y : Int32} : upd5 f c K a b x y (5 * c + 4) = y := by
  unfold upd5
  rw [upd_s]
theorem upd5_eq {f f' : AR} {c : Nat} {K a b x y : Int32} (h : ∀ j, j < 5 * c → f j = f' j) : ∀ j, j < 5 * (c + 1) → upd5 f c K a b x y j = upd5 f' c K a b x y j := by
  intro j hj
  by_cases e : j < 5 * c
  · rw [upd5_lo e, upd5_lo e]; exact h j e
  · rcases (show j = 5 * c ∨ j = 5 * c + 1 ∨ j = 5 * c + 2 ∨ j = 5 * c + 3 ∨ j = 5 * c + 4 by omega) with q | q | q | q | q <;> subst q
    · rw [upd5_0, upd5_0]
    · rw [upd5_1, upd5_1]
    · rw [upd5_2, upd5_2]
    · rw [upd5_3, upd5_3]
    · rw [upd5_4, upd5_4]
theorem m5 (c : Nat) : nI c * 5 = nI (5 * c) := by rw [show (5 : Int32) = nI 5 from rfl, pk_mul, Nat.mul_comm]
theorem m5' (c : Nat) : 5 * nI c = nI (5 * c) := by rw [show (5 : Int32) = nI 5 from rfl, pk_mul]
theorem p1 (a : Nat) : nI a + 1 = nI (a + 1) := nI_1 a
theorem p2 (a : Nat) : nI a + 2 = nI (a + 2) := nI_add a 2
theorem p3 (a : Nat) : nI a + 3 = nI (a + 3) := nI_add a 3
theorem p4 (a : Nat) : nI a + 4 = nI (a + 4) := nI_add a 4
theorem append0 {c : Nat} (hc : c < 48) (K a b x y : Int32) (rw_ : AR) : fX0_append K a b x y (nI c) rw_ = some (nI (c + 1), upd5 rw_ c K a b x y) := by
  unfold fX0_append
  rw [if_pos (show nI c < 48 from nI_lt hc (by decide))]
  simp only [slet_n]
  rw [m5, p1, p2, p3, p4, awr_n (5 * c) (by omega) (by decide) rfl, awr_n (5 * c + 1) (by omega) (by decide) rfl, awr_n (5 * c + 2) (by omega) (by decide) rfl, awr_n (5 * c + 3) (by omega) (by decide) rfl, awr_n (5 * c + 4) (by omega) (by decide) rfl, p1]
  rfl
theorem redo0 {k c : Nat} (hk : k < c) (hc : c ≤ 48) (rw_ kd sz lk hm tg vl : AR) : fX0_redo (nI k) (nI c) rw_ kd sz lk hm tg vl = stepC (rw_ (5 * k)) (rw_ (5 * k + 1)) (rw_ (5 * k + 2)) (rw_ (5 * k + 3)) (rw_ (5 * k + 4)) kd sz lk hm tg vl := by
  unfold fX0_redo
  rw [if_neg (nI_pos (by omega)), if_pos (nI_lt hk (by omega))]
  simp only [slet_n]
  rw [m5, p1, p2, p3, p4, ard_n (5 * k + 1) (by omega) (by decide) rfl, ard_n (5 * k + 2) (by omega) (by decide) rfl, ard_n (5 * k + 3) (by omega) (by decide) rfl, ard_n (5 * k + 4) (by omega) (by decide) rfl, ard_n (5 * k) (by omega) (by decide) rfl]
  rfl
theorem lv_le {kd sz : AR} (hz : szOk kd sz) : lvN kd sz ≤ 144 := sumN_le (c := 9) (n := 16) (fun k hk => by
  show wS (kd k) (sz k) ≤ 9
  by_cases h0 : kd k = 0
  · rw [wS_0 h0]; omega
  · by_cases h1 : kd k = 1
    · obtain ⟨s, hs, es⟩ := hz k hk h1
      rw [wS_1 h1 es hs]; omega
    · rw [wS_2 h0 h1]; omega)
abbrev O17 : Type := Int32 × Int32 × Int32 × AR × AR × AR × AR × AR × AR × AR × AR × AR × AR × AR × AR × Int32 × AR
def contC (ans cost K a b x y : Int32) (tk ts tl th tt tv : AR) (rw_ : AR) (o : Option (Int32 × Int32 × Int32 × AR × AR × AR × AR × AR × AR × Int32)) : Option O17 :=
  bn10 o fun r k s uk us ul uh ut uv ln => if r = 0 then (some (-6, k, s, tk, ts, tl, th, tt, tv, uk, us, ul, uh, ut, uv, ln, rw_)) else (bn9 (fX2_perform cost K a b x y k tk ts tl th tt tv ln rw_) fun k2 tk2 ts2 tl2 th2 tt2 tv2 ln2 rw2 => some (ans, k2, s, tk2, ts2, tl2, th2, tt2, tv2, uk, us, ul, uh, ut, uv, ln2, rw2))
section COM
variable {lim kpt syn : Int32} {tk ts tl th tt tv uk us ul uh ut uv : AR} {ln : Int32} {rw_ : AR} {mlim mkpt msyn mcn : Int32} {mk ms mc me ch : AR}
/-- both sides answer alike, and go on related -/
def Agree (oc : Option O17) (om : Option (Int32 × Int32 × Int32 × Int32 × AR × AR × AR × AR × AR)) (lim mlim : Int32) : Prop :=
  ∃ (r k' s' : Int32) (tk' ts' tl' th' tt' tv' uk' us' ul' uh' ut' uv' : AR) (ln' : Int32) (rw' : AR) (mk2 ms2 cn2 : Int32) (md' mz' mc' me' ch' : AR), oc = some (r, k', s', tk', ts', tl', th', tt', tv', uk', us', ul', uh', ut', uv', ln', rw') ∧ om = some (r, mk2, ms2, cn2, md', mz', mc', me', ch') ∧ Inv lim k' s' tk' ts' tl' th' tt' tv' uk' us' ul' uh' ut' uv' ln' rw' mlim mk2 ms2 cn2 md' mz' mc' me' ch'
theorem commit0 {K a b x y ans g : Int32} {w : Nat} (I : Inv lim kpt syn tk ts tl th tt tv uk us ul uh ut uv ln rw_ mlim mkpt msyn mcn mk ms mc me ch) (h : OkC K a b x y ans g tk ts tl tt) (hw : w = 2 ∨ w = 3) (hroom : ∀ L κ : Nat, lim = nI L → kpt = nI κ → L ≤ 48 → κ ≤ 48 → κ + w ≤ L) :
    Agree (contC ans (nI w) K a b x y tk ts tl th tt tv rw_ (fX2_makesRoom_b17 lim tk ts tl th tt tv g kpt syn uk us ul uh ut uv ln)) (fX3_attempt_b51 mlim K a b x y (nI w) mkpt msyn mcn mk ms mc me ch) lim mlim := by
  obtain ⟨L, κ, c, Cn, ⟨a1, a2, a3, a4, a5, a6, a7, a8, a9, a10, a11⟩, R, hl, Ru, hlu, hrw, hch, hCn⟩ := I
  have hκ := hroom L κ a5 a8 a7 (by omega)
  obtain ⟨kd', sz', lk', hm', tg', vl', d1, d2, d3⟩ := does_all R h
  have hsame := Rel.same R hCn
  obtain ⟨kn, sn, lnn, hn, tn, vn, e1, e2, e3⟩ := does_all hCn (OkC.congr h (fun k hk => hsame.1 k hk) hsame.2)
  -- the reference's arrays behind copy(0, 2)
  have R2 : Rel tk ts tl th tt tv (cpk mk 16 0 2 16) (cpk ms 16 0 2 16) (cpk mc 128 0 2 128) (cpk me 512 0 2 512) := R.seg (fun k h => ⟨cp_at0 (by decide) h, cp_at0 (by decide) h⟩) (fun j h => cp_at0 (by decide) h) (fun j h => cp_at0 (by decide) h)
  have Rn2 : RelT Cn (cpk mk 16 0 2 16) (cpk ms 16 0 2 16) (cpk mc 128 0 2 128) (cpk me 512 0 2 512) := Rel.seg hCn (fun k h => ⟨cp_at0 (by decide) h, cp_at0 (by decide) h⟩) (fun j h => cp_at0 (by decide) h) (fun j h => cp_at0 (by decide) h)
  obtain ⟨mk', ms', mc', me', f1, f2, f3⟩ := d3 _ _ _ _ R2
  obtain ⟨mk9, ms9, mc9, me9, g1, g2, g3⟩ := e3 _ _ _ _ Rn2
  have hinj := f1.symm.trans g1
  simp only [Option.some.injEq, Prod.mk.injEq, true_and] at hinj
  obtain ⟨rfl, rfl, rfl, rfl⟩ := hinj
  have hlv' : lvN kd' sz' = lvN mk' ms' := f2.lv
  have hlvn : lvN kn sn = lvN mk' ms' := Rel.lv g2
  have hle := lv_le f2.szC
  have hlim8 : lim - 8 = nI (L - 8) := by rw [a5]; exact pk_sub (a := L) (b := 8) (by omega)
  have hb17 : fX2_makesRoom_b17 lim tk ts tl th tt tv g kpt syn uk us ul uh ut uv ln = if nI (L - 8) < nI (lvN kd' sz') then some (0, kpt, syn, uk, us, ul, uh, ut, uv, ln) else some (1, kpt, syn, uk, us, ul, uh, ut, uv, ln) := by
    unfold fX2_makesRoom_b17
    rw [bn1_s (live1 R.szC)]
    simp only [slet_n]
    rw [d2, hlim8]
  have hb51 : fX3_attempt_b51 mlim K a b x y (nI w) mkpt msyn mcn mk ms mc me ch = if nI (lvN kd' sz') ≤ nI (L - 8) then some (ans, nI (κ + w), msyn, nI (c + 1), mk', ms', mc', me', upd5 ch c K a b x y) else some (-6, mkpt, msyn, mcn, cpk mk' 16 2 0 16, cpk ms' 16 2 0 16, cpk mc' 128 2 0 128, cpk me' 512 2 0 512, ch) := by
    unfold fX3_attempt_b51
    rw [bn4_s (copy02 mk ms mc me), bn5_s f1, bn1_s (live3 f2.szM), ← hlv']
    simp only [slet_n]
    rw [a1, hlim8, a2, a8, a4, a10, m5', p1, p2, p3, p4, awr_n (5 * c) (by omega) (by decide) rfl, awr_n (5 * c + 1) (by omega) (by decide) rfl, awr_n (5 * c + 2) (by omega) (by decide) rfl, awr_n (5 * c + 3) (by omega) (by decide) rfl, awr_n (5 * c + 4) (by omega) (by decide) rfl, p1, nI_add, bn4_s (copy20 mk' ms' mc' me')]
    rfl
  -- segment 1 is as it was
  have hs1 : Rel uk us ul uh ut uv (sg 16 mk') (sg 16 ms') (sg 128 mc') (sg 512 me') := Ru.seg (fun k h => ⟨by show mk' (16 + k) = mk (16 + k); rw [(f3.1 (16 + k) (by omega)).1, cp_at1 (by decide) h], by show ms' (16 + k) = ms (16 + k); rw [(f3.1 (16 + k) (by omega)).2, cp_at1 (by decide) h]⟩) (fun j h => by show me' (512 + j) = me (512 + j); rw [f3.2.1 (512 + j) (by omega), cp_at1 (by decide) h]) (fun j h => by show mc' (128 + j) = mc (128 + j); rw [f3.2.2 (128 + j) (by omega), cp_at1 (by decide) h])
  rw [hb17, hb51]
  by_cases hfit : lvN kd' sz' + 8 ≤ L
  · rw [if_neg (nI_nlt (by omega) (by omega)), if_pos (nI_le (by omega) (by omega))]
    have hperf : fX2_perform (nI w) K a b x y kpt tk ts tl th tt tv ln rw_ = some (nI (κ + w), kd', sz', lk', hm', tg', vl', nI (c + 1), upd5 rw_ c K a b x y) := by
      unfold fX2_perform
      rw [a10, bn2_s (append0 (by omega) K a b x y rw_), bn1_s (show fX0_length (nI (c + 1)) = some (nI (c + 1)) from rfl), slet_n, pk_1 (by omega), Nat.add_sub_cancel]
      have hredo : fX0_redo (nI c) (nI (c + 1)) (upd5 rw_ c K a b x y) tk ts tl th tt tv = some (kd', sz', lk', hm', tg', vl') := by
        rw [redo0 (by omega) (by omega), upd5_0, upd5_1, upd5_2, upd5_3, upd5_4]
        exact d1
      rw [bn6_s hredo, slet_n, a8, nI_add]
    refine ⟨ans, nI (κ + w), syn, kd', sz', lk', hm', tg', vl', uk, us, ul, uh, ut, uv, nI (c + 1), upd5 rw_ c K a b x y, nI (κ + w), msyn, nI (c + 1), mk', ms', mc', me', upd5 ch c K a b x y, ?_, rfl, ?_⟩
    · unfold contC
      rw [bn10_s rfl, if_neg (by decide), bn9_s hperf]
    · refine ⟨L, κ + w, c + 1, (kn, sn, lnn, hn, tn, vn), ⟨a1, rfl, a3, rfl, a5, a6, a7, rfl, hκ, rfl, by omega⟩, f2, hfit, hs1, hlu, upd5_eq hrw, ⟨Cn, hch.congr (fun j hj => upd5_lo hj), ?_⟩, g2⟩
      rw [upd5_0, upd5_1, upd5_2, upd5_3, upd5_4]
      refine ⟨e1, ?_, fun mq sq cq eq Rq => ?_⟩
      · show lvN kn sn + 8 ≤ L
        omega
      · obtain ⟨m1, m2, m3, m4, n1, n2, n3⟩ := e3 mq sq cq eq Rq
        exact ⟨ans, m1, m2, m3, m4, n1, n2, n3⟩
  · rw [if_pos (nI_lt (by omega) (by omega)), if_neg (nI_ge (by omega) (by omega))]
    refine ⟨-6, kpt, syn, tk, ts, tl, th, tt, tv, uk, us, ul, uh, ut, uv, ln, rw_, mkpt, msyn, mcn, _, _, _, _, ch, ?_, rfl, ?_⟩
    · unfold contC
      rw [bn10_s rfl, if_pos rfl]
    · have h16 : ∀ k, k < 16 → cpk mk' 16 2 0 16 k = mk k ∧ cpk ms' 16 2 0 16 k = ms k := fun k hk => by
        rw [cp_to0 hk, cp_to0 hk, (f3.1 (16 * 2 + k) (by omega)).1, (f3.1 (16 * 2 + k) (by omega)).2, cpk_to hk, cpk_to hk, Nat.mul_zero, Nat.zero_add]
        exact ⟨rfl, rfl⟩
      have h512 : ∀ j, j < 512 → cpk me' 512 2 0 512 j = me j := fun j hj => by
        rw [cp_to0 hj, f3.2.1 (512 * 2 + j) (by omega), cpk_to hj, Nat.mul_zero, Nat.zero_add]
      have h128 : ∀ j, j < 128 → cpk mc' 128 2 0 128 j = mc j := fun j hj => by
        rw [cp_to0 hj, f3.2.2 (128 * 2 + j) (by omega), cpk_to hj, Nat.mul_zero, Nat.zero_add]
      refine ⟨L, κ, c, Cn, ⟨a1, a2, a3, a4, a5, a6, a7, a8, a9, a10, a11⟩, R.seg h16 h512 h128, hl, ?_, hlu, hrw, hch, Rel.seg hCn h16 h512 h128⟩
      exact hs1.seg (fun k h => ⟨by show cpk mk' 16 2 0 16 (16 + k) = _; rw [cp_at1 (by decide) h], by show cpk ms' 16 2 0 16 (16 + k) = _; rw [cp_at1 (by decide) h]⟩) (fun j h => by show cpk me' 512 2 0 512 (512 + j) = _; rw [cp_at1 (by decide) h]) (fun j h => by show cpk mc' 128 2 0 128 (128 + j) = _; rw [cp_at1 (by decide) h])
theorem commit {K a b x y ans g : Int32} {w : Nat} (I : Inv lim kpt syn tk ts tl th tt tv uk us ul uh ut uv ln rw_ mlim mkpt msyn mcn mk ms mc me ch) (h : OkC K a b x y ans g tk ts tl tt) (hw : w = 2 ∨ w = 3) (ho : fX3_objection K a b x y mk ms me = some 0) (hc : fX3_cost K a b x mk me = some (nI w)) :
    Agree (contC ans (nI w) K a b x y tk ts tl th tt tv rw_ (fX2_makesRoom (nI w) g lim tk ts tl th tt tv kpt syn uk us ul uh ut uv ln)) (fX3_attempt K a b x y mlim mkpt msyn mcn mk ms mc me ch) lim mlim := by
  have I0 := I
  obtain ⟨L, κ, c, Cn, ⟨a1, a2, a3, a4, a5, a6, a7, a8, a9, a10, a11⟩, R, hl, Ru, hlu, hrw, hch, hCn⟩ := I0
  have ha : fX3_attempt K a b x y mlim mkpt msyn mcn mk ms mc me ch = if kpt + nI w ≤ lim then fX3_attempt_b51 mlim K a b x y (nI w) mkpt msyn mcn mk ms mc me ch else (bn8 (fX3_sync mkpt msyn mcn mk ms mc me) fun r47 mkpt_47 msyn_47 mcn_47 mkd_47 msz_47 mct_47 men_47 => fX3_attempt_b51 mlim K a b x y (nI w) mkpt_47 msyn_47 mcn_47 mkd_47 msz_47 mct_47 men_47 ch) := by
    unfold fX3_attempt
    rw [bn1_s ho, if_pos rfl, bn1_s hc, slet_n, a1, a2]
  have hm : fX2_makesRoom (nI w) g lim tk ts tl th tt tv kpt syn uk us ul uh ut uv ln = if kpt + nI w ≤ lim then fX2_makesRoom_b17 lim tk ts tl th tt tv g kpt syn uk us ul uh ut uv ln else (bn9 (fX2_countedSync tk ts tl th tt tv kpt syn uk us ul uh ut uv ln) fun k s uk us ul uh ut uv ln => fX2_makesRoom_b17 lim tk ts tl th tt tv g k s uk us ul uh ut uv ln) := by
    unfold fX2_makesRoom
    rw [slet_n]
  rw [ha, hm]
  by_cases hfit : kpt + nI w ≤ lim
  · rw [if_pos hfit, if_pos hfit]
    refine commit0 I h hw (fun L' κ' q1 q2 q3 q4 => ?_)
    rw [q1, q2, nI_add] at hfit
    exact (nI_leI (by omega) (by omega)).mp hfit
  · rw [if_neg hfit, if_neg hfit]
    obtain ⟨k', uk', us', ul', uh', ut', uv', mk', ms', mc', me', s1, s2, s3, s4⟩ := inv_sync I
    rw [bn9_s s1, bn8_s s2]
    refine commit0 s3 h hw (fun L' κ' q1 q2 q3 q4 => ?_)
    rw [s4] at q2
    have e1 : lvN tk ts = κ' := nI_inj (by omega) (by omega) q2
    rw [a5] at q1
    have e2 : L = L' := nI_inj (by omega) (by omega) q1
    omega
end COM
