set_option maxHeartbeats 4000000 in
set_option maxRecDepth 100000 in
theorem law_loop {p : Program} {l : Launch} {e : Env} {s : State} {m : MethodId} {below : List Frame} {meth : Method} {c : Code} {dC : Nat → ClassId} {dI : Nat → Nat → Nat} {cI : ClassId} {b L : Nat} {xs : Nat → Int32} (hL : L ≤ 2561) (C0 : lw_At p s m meth c b L xs) (hK : va_K (dC, dI) vwCl [(cI, .int)] s) (h0 ht0 ht1 ht2 ht3 ht4 ht5 ht6 hu0 hu1 hu2 hu3 hu4 hu5 hu6 hg0 hg1 m0 m1 m2 m3 m4 m5 : Nat) : ∀ (n i : Nat), i ≤ L + 5 → L + 6 ≤ i + n → ∀ (lim kpt syn : Int32) (tk ts tl th tt tv uk us ul uh ut uv : AR) (ln : Int32) (rw_ : AR) (mlim mkpt msyn mcn : Int32) (mk ms mc me ch : AR) (H : Heap) (locs : List Loc) (ls : Array Slot), Inv lim kpt syn tk ts tl th tt tv uk us ul uh ut uv ln rw_ mlim mkpt msyn mcn mk ms mc me ch → va_P (dC, dI) vwCl ((wX2 cI h0 ht0 ht1 ht2 ht3 ht4 ht5 ht6 hu0 hu1 hu2 hu3 hu4 hu5 hu6 hg0 hg1 lim kpt syn tk ts tl th tt tv uk us ul uh ut uv ln rw_) ++ (wX3 cI m0 m1 m2 m3 m4 m5 mlim mkpt msyn mcn mk ms mc me ch)) H → va_D (fun q : Nat => s.heap.size ≤ q) ((wX2 cI h0 ht0 ht1 ht2 ht3 ht4 ht5 ht6 hu0 hu1 hu2 hu3 hu4 hu5 hu6 hg0 hg1 lim kpt syn tk ts tl th tt tv uk us ul uh ut uv ln rw_) ++ (wX3 cI m0 m1 m2 m3 m4 m5 mlim mkpt msyn mcn mk ms mc me ch)) → va_S (fun q : Nat => s.heap.size ≤ q) s.heap H locs → lv_has ls 4 [(3, .int (nI (i))), (0, .ref b), (1, .ref h0), (2, .ref m0)] → W p l e room_1 s m #[Value.ref b] below meth c H locs 23 3893 (lw_Z below #[Value.ref b] s) (F0 m 28 ls []) := by
  obtain ⟨hx, hb, hr, hml, hown, hts, hX, hbl, hlocks, hgv⟩ := id C0
  have hown : s.vm.findClass RL = some m.cls := hown
  have hbA : ¬ (fun q : Nat => s.heap.size ≤ q) b := Nat.not_le.mpr hbl
  intro n
  induction n with
  | zero =>
    intro i h1 h2
    exact absurd h2 (by omega)
  | succ n ih =>
    intro i h1 h2 lim kpt syn tk ts tl th tt tv uk us ul uh ut uv ln rw_ mlim mkpt msyn mcn mk ms mc me ch H locs ls I hP hD hS hl
    refine lv_iload_n hx hb dL_law_28 rfl (lv_at hl 0 rfl) ?_
    refine lv_aload_n hx hb dL_law_29 rfl (lv_at hl 1 rfl) ?_
    refine va_slen hx hb hX hbl hbA hS dL_law_30 ?_
    refine lv_iconst (v := 5) hx hb dL_law_31 (by decide) ?_
    refine lv_isub hx hb dL_law_32 ?_
    have hcmp : (Int32.ofNat L - 5).toInt = (L : Int) - 5 := pk_sub_toInt (a := L) (b := 5) (by omega) (by omega)
    have hin : (nI i).toInt = (i : Int) := nI_toInt (by omega)
    refine lv_icmp_gt (tgt := 570) hx hb dL_law_33 (by decide) (fun q => ?_) (fun q => ?_)
    · refine lv_iconst (v := 1) hx hb dL_law_570 (by decide) ?_
      refine va_forget (fun q hq => hS.2.2 q hq) ?_
      exact lw_ret hx hb hr hlocks dL_law_571
    · have hi : i + 5 ≤ L := by
        rw [Int32.lt_iff_toInt_lt, hcmp, hin] at q
        omega
      refine lv_aload_n hx hb dL_law_36 rfl (lv_at hl 1 rfl) ?_
      refine lv_iload_n hx hb dL_law_37 rfl (lv_at hl 0 rfl) ?_
      refine va_sld hx hb hX hbl hbA hS (vp_in_nI (n := i) (by omega) (by omega)) dL_law_38 ?_
      refine lv_bipush (v := 15) hx hb dL_law_39 (by decide) ?_
      refine lv_iand hx hb dL_law_41 ?_
      refine lv_topi (fun x ex => ?_)
      have cont := ih (i + 5) (by omega) (by omega)
      by_cases c0 : x = 0
      · refine lv_tableIn (tgt := 108) hx hb dL_law_42 (by rw [c0]; decide) (by rw [c0]; decide) (off := 66) (by rw [c0]; decide) (by decide) ?_
        exact law_create hL C0 hK h0 ht0 ht1 ht2 ht3 ht4 ht5 ht6 hu0 hu1 hu2 hu3 hu4 hu5 hu6 hg0 hg1 m0 m1 m2 m3 m4 m5 hi cont lim kpt syn tk ts tl th tt tv uk us ul uh ut uv ln rw_ mlim mkpt msyn mcn mk ms mc me ch H locs ls I hP hD hS hl
      by_cases c1 : x = 1
      · refine lv_tableIn (tgt := 167) hx hb dL_law_42 (by rw [c1]; decide) (by rw [c1]; decide) (off := 125) (by rw [c1]; decide) (by decide) ?_
        exact law_link hL C0 hK h0 ht0 ht1 ht2 ht3 ht4 ht5 ht6 hu0 hu1 hu2 hu3 hu4 hu5 hu6 hg0 hg1 m0 m1 m2 m3 m4 m5 hi cont lim kpt syn tk ts tl th tt tv uk us ul uh ut uv ln rw_ mlim mkpt msyn mcn mk ms mc me ch H locs ls I hP hD hS hl
      by_cases c2 : x = 2
      · refine lv_tableIn (tgt := 210) hx hb dL_law_42 (by rw [c2]; decide) (by rw [c2]; decide) (off := 168) (by rw [c2]; decide) (by decide) ?_
        exact law_remove hL C0 hK h0 ht0 ht1 ht2 ht3 ht4 ht5 ht6 hu0 hu1 hu2 hu3 hu4 hu5 hu6 hg0 hg1 m0 m1 m2 m3 m4 m5 hi cont lim kpt syn tk ts tl th tt tv uk us ul uh ut uv ln rw_ mlim mkpt msyn mcn mk ms mc me ch H locs ls I hP hD hS hl
      by_cases c3 : x = 3
      · refine lv_tableIn (tgt := 243) hx hb dL_law_42 (by rw [c3]; decide) (by rw [c3]; decide) (off := 201) (by rw [c3]; decide) (by decide) ?_
        exact law_rename hL C0 hK h0 ht0 ht1 ht2 ht3 ht4 ht5 ht6 hu0 hu1 hu2 hu3 hu4 hu5 hu6 hg0 hg1 m0 m1 m2 m3 m4 m5 hi cont lim kpt syn tk ts tl th tt tv uk us ul uh ut uv ln rw_ mlim mkpt msyn mcn mk ms mc me ch H locs ls I hP hD hS hl
      by_cases c4 : x = 4
      · refine lv_tableIn (tgt := 296) hx hb dL_law_42 (by rw [c4]; decide) (by rw [c4]; decide) (off := 254) (by rw [c4]; decide) (by decide) ?_
        exact law_write hL C0 hK h0 ht0 ht1 ht2 ht3 ht4 ht5 ht6 hu0 hu1 hu2 hu3 hu4 hu5 hu6 hg0 hg1 m0 m1 m2 m3 m4 m5 hi cont lim kpt syn tk ts tl th tt tv uk us ul uh ut uv ln rw_ mlim mkpt msyn mcn mk ms mc me ch H locs ls I hP hD hS hl
      by_cases c5 : x = 5
      · refine lv_tableIn (tgt := 339) hx hb dL_law_42 (by rw [c5]; decide) (by rw [c5]; decide) (off := 297) (by rw [c5]; decide) (by decide) ?_
        exact law_cut hL C0 hK h0 ht0 ht1 ht2 ht3 ht4 ht5 ht6 hu0 hu1 hu2 hu3 hu4 hu5 hu6 hg0 hg1 m0 m1 m2 m3 m4 m5 hi cont lim kpt syn tk ts tl th tt tv uk us ul uh ut uv ln rw_ mlim mkpt msyn mcn mk ms mc me ch H locs ls I hP hD hS hl
      by_cases c6 : x = 6
      · refine lv_tableIn (tgt := 372) hx hb dL_law_42 (by rw [c6]; decide) (by rw [c6]; decide) (off := 330) (by rw [c6]; decide) (by decide) ?_
        exact law_sync hL C0 hK h0 ht0 ht1 ht2 ht3 ht4 ht5 ht6 hu0 hu1 hu2 hu3 hu4 hu5 hu6 hg0 hg1 m0 m1 m2 m3 m4 m5 hi cont lim kpt syn tk ts tl th tt tv uk us ul uh ut uv ln rw_ mlim mkpt msyn mcn mk ms mc me ch H locs ls I hP hD hS hl
      by_cases c7 : x = 7
      · refine lv_tableIn (tgt := 385) hx hb dL_law_42 (by rw [c7]; decide) (by rw [c7]; decide) (off := 343) (by rw [c7]; decide) (by decide) ?_
        exact law_crash hL C0 hK h0 ht0 ht1 ht2 ht3 ht4 ht5 ht6 hu0 hu1 hu2 hu3 hu4 hu5 hu6 hg0 hg1 m0 m1 m2 m3 m4 m5 hi cont lim kpt syn tk ts tl th tt tv uk us ul uh ut uv ln rw_ mlim mkpt msyn mcn mk ms mc me ch H locs ls I hP hD hS hl
      by_cases c8 : x = 8
      · refine lv_tableIn (tgt := 408) hx hb dL_law_42 (by rw [c8]; decide) (by rw [c8]; decide) (off := 366) (by rw [c8]; decide) (by decide) ?_
        exact law_find hL C0 hK h0 ht0 ht1 ht2 ht3 ht4 ht5 ht6 hu0 hu1 hu2 hu3 hu4 hu5 hu6 hg0 hg1 m0 m1 m2 m3 m4 m5 hi cont lim kpt syn tk ts tl th tt tv uk us ul uh ut uv ln rw_ mlim mkpt msyn mcn mk ms mc me ch H locs ls I hP hD hS hl
      by_cases c9 : x = 9
      · refine lv_tableIn (tgt := 441) hx hb dL_law_42 (by rw [c9]; decide) (by rw [c9]; decide) (off := 399) (by rw [c9]; decide) (by decide) ?_
        exact law_entry hL C0 hK h0 ht0 ht1 ht2 ht3 ht4 ht5 ht6 hu0 hu1 hu2 hu3 hu4 hu5 hu6 hg0 hg1 m0 m1 m2 m3 m4 m5 hi cont lim kpt syn tk ts tl th tt tv uk us ul uh ut uv ln rw_ mlim mkpt msyn mcn mk ms mc me ch H locs ls I hP hD hS hl
      by_cases c10 : x = 10
      · refine lv_tableIn (tgt := 474) hx hb dL_law_42 (by rw [c10]; decide) (by rw [c10]; decide) (off := 432) (by rw [c10]; decide) (by decide) ?_
        exact law_read hL C0 hK h0 ht0 ht1 ht2 ht3 ht4 ht5 ht6 hu0 hu1 hu2 hu3 hu4 hu5 hu6 hg0 hg1 m0 m1 m2 m3 m4 m5 hi cont lim kpt syn tk ts tl th tt tv uk us ul uh ut uv ln rw_ mlim mkpt msyn mcn mk ms mc me ch H locs ls I hP hD hS hl
      by_cases c11 : x = 11
      · refine lv_tableIn (tgt := 508) hx hb dL_law_42 (by rw [c11]; decide) (by rw [c11]; decide) (off := 466) (by rw [c11]; decide) (by decide) ?_
        exact law_tell hL C0 hK h0 ht0 ht1 ht2 ht3 ht4 ht5 ht6 hu0 hu1 hu2 hu3 hu4 hu5 hu6 hg0 hg1 m0 m1 m2 m3 m4 m5 hi cont lim kpt syn tk ts tl th tt tv uk us ul uh ut uv ln rw_ mlim mkpt msyn mcn mk ms mc me ch H locs ls I hP hD hS hl
      by_cases c12 : x = 12
      · refine lv_tableIn (tgt := 541) hx hb dL_law_42 (by rw [c12]; decide) (by rw [c12]; decide) (off := 499) (by rw [c12]; decide) (by decide) ?_
        exact law_count hL C0 hK h0 ht0 ht1 ht2 ht3 ht4 ht5 ht6 hu0 hu1 hu2 hu3 hu4 hu5 hu6 hg0 hg1 m0 m1 m2 m3 m4 m5 hi cont lim kpt syn tk ts tl th tt tv uk us ul uh ut uv ln rw_ mlim mkpt msyn mcn mk ms mc me ch H locs ls I hP hD hS hl
      have t0 := lv_neT (a := 0) c0 (by decide)
      have t1 := lv_neT (a := 1) c1 (by decide)
      have t2 := lv_neT (a := 2) c2 (by decide)
      have t3 := lv_neT (a := 3) c3 (by decide)
      have t4 := lv_neT (a := 4) c4 (by decide)
      have t5 := lv_neT (a := 5) c5 (by decide)
      have t6 := lv_neT (a := 6) c6 (by decide)
      have t7 := lv_neT (a := 7) c7 (by decide)
      have t8 := lv_neT (a := 8) c8 (by decide)
      have t9 := lv_neT (a := 9) c9 (by decide)
      have t10 := lv_neT (a := 10) c10 (by decide)
      have t11 := lv_neT (a := 11) c11 (by decide)
      have t12 := lv_neT (a := 12) c12 (by decide)
      refine lv_tableOut (tgt := 564) hx hb dL_law_42 (by omega) (by decide) ?_
      refine lv_iinc (v := nI (i + 5)) (lv' := [(3, .int (nI (i + 5))), (0, .ref b), (1, .ref h0), (2, .ref m0)]) hx hb dL_law_564 hl (k := 0) rfl (nI_add i 5) (by decide) rfl (fun ls hl => ?_)
      refine lv_goto (tgt := 28) hx hb dL_law_567 (by decide) ?_
      exact cont lim kpt syn tk ts tl th tt tv uk us ul uh ut uv ln rw_ mlim mkpt msyn mcn mk ms mc me ch H locs ls I hP hD hS hl
set_option maxHeartbeats 4000000 in
set_option maxRecDepth 100000 in
theorem whole_start {p : Program} {e : Env} {s : State} {m : MethodId} {below : List Frame} {meth : Method} {c : Code} (l : Launch) {b L : Nat} {xs : Nat → Int32} (hL : L ≤ 2561) (C0 : lw_At p s m meth c b L xs) : W p l e room_1 s m #[Value.ref b] below meth c s.heap [] 0 0 (lw_Z below #[Value.ref b] s) (entryFrame m ([Value.ref b] : List Value).toArray 4) := by
  obtain ⟨hx, hb, hr, hml, hown, hts, hX, hbl, hlocks, hgv⟩ := id C0
  have hown : s.vm.findClass RL = some m.cls := hown
  have hbA : ¬ (fun q : Nat => s.heap.size ≤ q) b := Nat.not_le.mpr hbl
  have hA : ∀ q : Nat, s.heap.size ≤ q → (fun q : Nat => s.heap.size ≤ q) q := fun _ h => h
  obtain ⟨c0, iS0, hKn0⟩ := u_known (C := RX0) (T := TX0) (N := 2) (n := 2) hts (fun w h => wT_in (inX0 w h)) (hts _ (wT_in q_35))
  obtain ⟨c1, iS1, hKn1⟩ := u_known (C := RX1) (T := TX1) (N := 6) (n := 6) hts (fun w h => wT_in (inX1 w h)) (hts _ (wT_in q_22))
  obtain ⟨c2, iS2, hKn2⟩ := u_known (C := RX2) (T := TX2) (N := 6) (n := 6) hts (fun w h => wT_in (inX2 w h)) (hts _ (wT_in q_8))
  obtain ⟨c3, iS3, hKn3⟩ := u_known (C := RX3) (T := TX3) (N := 9) (n := 9) hts (fun w h => wT_in (inX3 w h)) (hts _ (wT_in q_234))
  obtain ⟨dC, dI, hKc⟩ : ∃ (dC : Nat → ClassId) (dI : Nat → Nat → Nat), ∀ (k : Nat) (q : vw_C), vwCl[k]? = some q → u_Kn s q.1 q.2.1 q.2.2 (dC k) (dI k) := by
    refine ⟨fun k => if k = 0 then c0 else if k = 1 then c1 else if k = 2 then c2 else c3, fun k => if k = 0 then iS0 else if k = 1 then iS1 else if k = 2 then iS2 else iS3, ?_⟩
    intro k q hq
    match k, hq with
    | 0, hq => cases hq; exact hKn0
    | 1, hq => cases hq; exact hKn1
    | 2, hq => cases hq; exact hKn2
    | 3, hq => cases hq; exact hKn3
    | k + 4, hq => simp [vwCl] at hq
  have hK0 : va_K (dC, dI) vwCl [] s := ⟨hKc, fun k q h => by simp at h⟩
  obtain ⟨cI, hK⟩ := arrK hK0 (hts _ (wT_in q_33))
  have hS : va_S (fun q : Nat => s.heap.size ≤ q) s.heap s.heap [] := va_S.rf
  have hP : va_P (dC, dI) vwCl [] s.heap := fun k q h => by simp at h
  have hD : va_D (fun q : Nat => s.heap.size ≤ q) [] := ⟨fun i j p q h => by simp at h, fun k q h => by simp at h⟩
  have hl := lv_entry ([.ref b]) (n := 4) (Nat.le_of_ble_eq_true rfl)
  rw [lg_entry_eq]
  generalize (lg_sl ([.ref b]) ++ List.replicate (4 - (lg_sl ([.ref b])).length) Slot.unset).toArray = ls at hl ⊢
  have hl : lv_has ls 4 [(0, .ref b)] := hl
  refine va_new (ci := 2) (fs := [.int 0, .null, .null, .null, .int 0, .int 0]) (C := RX2) (T := TX2) (N := 6) hx hb hts (fun w h => wT_in (inX2 w h)) tyX2 tyX2_ok hown (hts _ (wT_in q_7)) (hts _ (wT_in q_8)) (hts _ (wT_in q_1)) hK hP hD hS hA rfl (fun j hj => by rcases (show j = 0 ∨ j = 1 ∨ j = 2 ∨ j = 3 ∨ j = 4 ∨ j = 5 by omega) with rfl | rfl | rfl | rfl | rfl | rfl <;> rfl) (Nat.le_of_ble_eq_true rfl) (Nat.le_of_ble_eq_true rfl) dL_law_0 (fun h0 H hP hD hS => ?_)
  have hP : va_P (dC, dI) vwCl [(h0, .inr (2, [.int 0, .null, .null, .null, .int 0, .int 0]))] H := hP
  have hD : va_D (fun q : Nat => s.heap.size ≤ q) [(h0, .inr (2, [.int 0, .null, .null, .null, .int 0, .int 0]))] := hD
  refine W.widen (k := 1) (n := 6) (by decide) (by decide) ?_
  refine lv_dup hx hb dL_law_3 rfl ?_
  refine lv_aload_n hx hb dL_law_4 rfl (lv_at hl 0 rfl) ?_
  refine lv_iconst (v := 0) hx hb dL_law_5 (by decide) ?_
  refine callRi (va_runS (As := [.ref b, .int 0]) (rest := [.ref h0, .ref h0]) ⟨hx, hb, hml, hown, hts⟩ (cL_cell_met l b L xs hL) (cwS 2 hts (gInL (memS q_230 q_231 q_0 q_232)) rfl rfl rfl (by decide +kernel) ⟨(Nat.le_of_ble_eq_true rfl), (Nat.le_of_ble_eq_true rfl)⟩) (preX hX hbl hbA hS) rfl rfl hl.1 rfl (lv_room (Nat.le_of_ble_eq_true rfl)) dL_law_6 ⟨(Nat.le_of_ble_eq_true rfl), (Nat.le_of_ble_eq_true rfl)⟩) hS hP (fun H locs hP hS => ?_)
  have hPc := hP.sub (ws' := [(h0, .inr (2, [.int 0, .null, .null, .null, .int 0, .int 0]))]) [0] rfl
  have hDc := hD.sub (ws' := [(h0, .inr (2, [.int 0, .null, .null, .null, .int 0, .int 0]))]) [0] (by decide) rfl
  have hFc := va_free (wc := [(h0, .inr (2, [.int 0, .null, .null, .null, .int 0, .int 0]))]) hD hS hA [0] rfl
  refine va_callv (va_runI (As := [.int (cell0 L xs)]) (rest := [.ref h0]) ⟨hx, hb, hml, hown, hts⟩ (cX2_init_met l dC dI cI h0 H.size (cell0 L xs)) (cwI 1 hts (gInL (memI q_11)) rfl rfl rfl (hts _ (wT_in q_1)) (hts _ (wT_in q_9)) (hts _ (wT_in q_10)) rfl (by decide +kernel) ⟨(Nat.le_of_ble_eq_true rfl), (Nat.le_of_ble_eq_true rfl)⟩) (preNI hK hPc hDc) rfl rfl hl.1 rfl (lv_room (Nat.le_of_ble_eq_true rfl)) dL_law_9 ⟨(Nat.le_of_ble_eq_true rfl), (Nat.le_of_ble_eq_true rfl)⟩) hS (fun q _ h => hFc q h) hFc (fun u t H1 locs ht hvm hw hB hz1 hk1 hS => ?_)
  obtain ⟨ht0, ht1, ht2, ht3, ht4, ht5, ht6, hu0, hu1, hu2, hu3, hu4, hu5, hu6, hg0, hg1, hP1, hD1⟩ := hB
  rw [ht] at hP1
  obtain ⟨hP, hD⟩ := va_join (wr := []) (w1 := (wX2 cI h0 ht0 ht1 ht2 ht3 ht4 ht5 ht6 hu0 hu1 hu2 hu3 hu4 hu5 hu6 hg0 hg1 (limX (cell0 L xs)) 1 0 (upd z0 0 2) z0 z0 z0 z0 z0 (upd z0 0 2) z0 z0 z0 z0 z0 0 z0)) hP hD [0] [] rfl rfl (by decide) (by decide) hk1 hFc hP1 hD1
  generalize H1 = H at hP hS ⊢
  have hP : va_P (dC, dI) vwCl (wX2 cI h0 ht0 ht1 ht2 ht3 ht4 ht5 ht6 hu0 hu1 hu2 hu3 hu4 hu5 hu6 hg0 hg1 (limX (cell0 L xs)) 1 0 (upd z0 0 2) z0 z0 z0 z0 z0 (upd z0 0 2) z0 z0 z0 z0 z0 0 z0) H := hP
  have hD : va_D (fun q : Nat => s.heap.size ≤ q) (wX2 cI h0 ht0 ht1 ht2 ht3 ht4 ht5 ht6 hu0 hu1 hu2 hu3 hu4 hu5 hu6 hg0 hg1 (limX (cell0 L xs)) 1 0 (upd z0 0 2) z0 z0 z0 z0 z0 (upd z0 0 2) z0 z0 z0 z0 z0 0 z0) := hD
  refine W.widen (k := 17) (n := 1668) (by decide) (by decide) ?_
  refine lv_astore_n (lv' := [(1, .ref h0), (0, .ref b)]) hx hb dL_law_12 rfl hl (by decide) rfl (fun ls hl => ?_)
  refine va_new (ci := 3) (fs := [.int 0, .null, .null, .null, .null, .int 0, .int 0, .int 0, .null]) (C := RX3) (T := TX3) (N := 9) hx hb hts (fun w h => wT_in (inX3 w h)) tyX3 tyX3_ok hown (hts _ (wT_in q_233)) (hts _ (wT_in q_234)) (hts _ (wT_in q_5)) hK hP hD hS hA rfl (fun j hj => by rcases (show j = 0 ∨ j = 1 ∨ j = 2 ∨ j = 3 ∨ j = 4 ∨ j = 5 ∨ j = 6 ∨ j = 7 ∨ j = 8 by omega) with rfl | rfl | rfl | rfl | rfl | rfl | rfl | rfl | rfl <;> rfl) (Nat.le_of_ble_eq_true rfl) (Nat.le_of_ble_eq_true rfl) dL_law_13 (fun m0 H hP hD hS => ?_)
  have hP : va_P (dC, dI) vwCl ((wX2 cI h0 ht0 ht1 ht2 ht3 ht4 ht5 ht6 hu0 hu1 hu2 hu3 hu4 hu5 hu6 hg0 hg1 (limX (cell0 L xs)) 1 0 (upd z0 0 2) z0 z0 z0 z0 z0 (upd z0 0 2) z0 z0 z0 z0 z0 0 z0) ++ [(m0, .inr (3, [.int 0, .null, .null, .null, .null, .int 0, .int 0, .int 0, .null]))]) H := hP
  have hD : va_D (fun q : Nat => s.heap.size ≤ q) ((wX2 cI h0 ht0 ht1 ht2 ht3 ht4 ht5 ht6 hu0 hu1 hu2 hu3 hu4 hu5 hu6 hg0 hg1 (limX (cell0 L xs)) 1 0 (upd z0 0 2) z0 z0 z0 z0 z0 (upd z0 0 2) z0 z0 z0 z0 z0 0 z0) ++ [(m0, .inr (3, [.int 0, .null, .null, .null, .null, .int 0, .int 0, .int 0, .null]))]) := hD
  refine W.widen (k := 18) (n := 1677) (by decide) (by decide) ?_
  refine lv_dup hx hb dL_law_16 rfl ?_
  refine lv_aload_n hx hb dL_law_17 rfl (lv_at hl 1 rfl) ?_
  refine lv_iconst (v := 0) hx hb dL_law_18 (by decide) ?_
  refine callRi (va_runS (As := [.ref b, .int 0]) (rest := [.ref m0, .ref m0]) ⟨hx, hb, hml, hown, hts⟩ (cL_cell_met l b L xs hL) (cwS 2 hts (gInL (memS q_230 q_231 q_0 q_232)) rfl rfl rfl (by decide +kernel) ⟨(Nat.le_of_ble_eq_true rfl), (Nat.le_of_ble_eq_true rfl)⟩) (preX hX hbl hbA hS) rfl rfl hl.1 rfl (lv_room (Nat.le_of_ble_eq_true rfl)) dL_law_19 ⟨(Nat.le_of_ble_eq_true rfl), (Nat.le_of_ble_eq_true rfl)⟩) hS hP (fun H locs hP hS => ?_)
  have hPc := hP.sub (ws' := [(m0, .inr (3, [.int 0, .null, .null, .null, .null, .int 0, .int 0, .int 0, .null]))]) [17] rfl
  have hDc := hD.sub (ws' := [(m0, .inr (3, [.int 0, .null, .null, .null, .null, .int 0, .int 0, .int 0, .null]))]) [17] (by decide) rfl
  have hFc := va_free (wc := [(m0, .inr (3, [.int 0, .null, .null, .null, .null, .int 0, .int 0, .int 0, .null]))]) hD hS hA [17] rfl
  refine va_callv (va_runI (As := [.int (cell0 L xs)]) (rest := [.ref m0]) ⟨hx, hb, hml, hown, hts⟩ (cX3_init_met l dC dI cI m0 H.size (cell0 L xs)) (cwI 1 hts (gInL (memI q_237)) rfl rfl rfl (hts _ (wT_in q_5)) (hts _ (wT_in q_235)) (hts _ (wT_in q_236)) rfl (by decide +kernel) ⟨(Nat.le_of_ble_eq_true rfl), (Nat.le_of_ble_eq_true rfl)⟩) (preNI hK hPc hDc) rfl rfl hl.1 rfl (lv_room (Nat.le_of_ble_eq_true rfl)) dL_law_22 ⟨(Nat.le_of_ble_eq_true rfl), (Nat.le_of_ble_eq_true rfl)⟩) hS (fun q _ h => hFc q h) hFc (fun u t H1 locs ht hvm hw hB hz1 hk1 hS => ?_)
  obtain ⟨m1, m2, m3, m4, m5, hP1, hD1⟩ := hB
  rw [ht] at hP1
  obtain ⟨hP, hD⟩ := va_join (wr := (wX2 cI h0 ht0 ht1 ht2 ht3 ht4 ht5 ht6 hu0 hu1 hu2 hu3 hu4 hu5 hu6 hg0 hg1 (limX (cell0 L xs)) 1 0 (upd z0 0 2) z0 z0 z0 z0 z0 (upd z0 0 2) z0 z0 z0 z0 z0 0 z0)) (w1 := (wX3 cI m0 m1 m2 m3 m4 m5 (limM (cell0 L xs)) 1 0 0 kd0 sz00 ct0 en0 z0)) hP hD [17] [0, 1, 2, 3, 4, 5, 6, 7, 8, 9, 10, 11, 12, 13, 14, 15, 16] rfl rfl (by decide) (by decide) hk1 hFc hP1 hD1
  generalize H1 = H at hP hS ⊢
  have hP : va_P (dC, dI) vwCl ((wX2 cI h0 ht0 ht1 ht2 ht3 ht4 ht5 ht6 hu0 hu1 hu2 hu3 hu4 hu5 hu6 hg0 hg1 (limX (cell0 L xs)) 1 0 (upd z0 0 2) z0 z0 z0 z0 z0 (upd z0 0 2) z0 z0 z0 z0 z0 0 z0) ++ (wX3 cI m0 m1 m2 m3 m4 m5 (limM (cell0 L xs)) 1 0 0 kd0 sz00 ct0 en0 z0)) H := hP
  have hD : va_D (fun q : Nat => s.heap.size ≤ q) ((wX2 cI h0 ht0 ht1 ht2 ht3 ht4 ht5 ht6 hu0 hu1 hu2 hu3 hu4 hu5 hu6 hg0 hg1 (limX (cell0 L xs)) 1 0 (upd z0 0 2) z0 z0 z0 z0 z0 (upd z0 0 2) z0 z0 z0 z0 z0 0 z0) ++ (wX3 cI m0 m1 m2 m3 m4 m5 (limM (cell0 L xs)) 1 0 0 kd0 sz00 ct0 en0 z0)) := hD
  refine W.widen (k := 23) (n := 3893) (by decide) (by decide) ?_
  refine lv_astore_n (lv' := [(2, .ref m0), (1, .ref h0), (0, .ref b)]) hx hb dL_law_25 rfl hl (by decide) rfl (fun ls hl => ?_)
  refine lv_iconst (v := 1) hx hb dL_law_26 (by decide) ?_
  refine lv_istore_n (lv' := [(3, .int 1), (2, .ref m0), (1, .ref h0), (0, .ref b)]) hx hb dL_law_27 rfl hl (by decide) rfl (fun ls hl => ?_)
  exact law_loop hL C0 hK h0 ht0 ht1 ht2 ht3 ht4 ht5 ht6 hu0 hu1 hu2 hu3 hu4 hu5 hu6 hg0 hg1 m0 m1 m2 m3 m4 m5 (L + 6) 1 (by omega) (by omega) (limX (cell0 L xs)) 1 0 (upd z0 0 2) z0 z0 z0 z0 z0 (upd z0 0 2) z0 z0 z0 z0 z0 0 z0 (limM (cell0 L xs)) 1 0 0 kd0 sz00 ct0 en0 z0 H locs ls (inv_start (cell0 L xs)) hP hD hS (lv_sub hl [0, 3, 2, 1] rfl)
