set_option maxHeartbeats 4000000 in
set_option maxRecDepth 100000 in
theorem law_find {p : Program} {l : Launch} {e : Env} {s : State} {m : MethodId} {below : List Frame} {meth : Method} {c : Code} {dC : Nat → ClassId} {dI : Nat → Nat → Nat} {cI : ClassId} {b L : Nat} {xs : Nat → Int32} (hL : L ≤ 2561) (C0 : lw_At p s m meth c b L xs) (hK : va_K (dC, dI) vwCl [(cI, .int)] s) (h0 ht0 ht1 ht2 ht3 ht4 ht5 ht6 hu0 hu1 hu2 hu3 hu4 hu5 hu6 hg0 hg1 m0 m1 m2 m3 m4 m5 : Nat) {i : Nat} (hi : i + 5 ≤ L) (cont : ∀ (lim kpt syn : Int32) (tk ts tl th tt tv uk us ul uh ut uv : AR) (ln : Int32) (rw_ : AR) (mlim mkpt msyn mcn : Int32) (mk ms mc me ch : AR) (H : Heap) (locs : List Loc) (ls : Array Slot), Inv lim kpt syn tk ts tl th tt tv uk us ul uh ut uv ln rw_ mlim mkpt msyn mcn mk ms mc me ch → va_P (dC, dI) vwCl ((wX2 cI h0 ht0 ht1 ht2 ht3 ht4 ht5 ht6 hu0 hu1 hu2 hu3 hu4 hu5 hu6 hg0 hg1 lim kpt syn tk ts tl th tt tv uk us ul uh ut uv ln rw_) ++ (wX3 cI m0 m1 m2 m3 m4 m5 mlim mkpt msyn mcn mk ms mc me ch)) H → va_D (fun q : Nat => s.heap.size ≤ q) ((wX2 cI h0 ht0 ht1 ht2 ht3 ht4 ht5 ht6 hu0 hu1 hu2 hu3 hu4 hu5 hu6 hg0 hg1 lim kpt syn tk ts tl th tt tv uk us ul uh ut uv ln rw_) ++ (wX3 cI m0 m1 m2 m3 m4 m5 mlim mkpt msyn mcn mk ms mc me ch)) → va_S (fun q : Nat => s.heap.size ≤ q) s.heap H locs → lv_has ls 4 [(3, .int (nI (i + 5))), (0, .ref b), (1, .ref h0), (2, .ref m0)] → W p l e room_1 s m #[Value.ref b] below meth c H locs 23 3893 (lw_Z below #[Value.ref b] s) (F0 m 28 ls [])) : ∀ (lim kpt syn : Int32) (tk ts tl th tt tv uk us ul uh ut uv : AR) (ln : Int32) (rw_ : AR) (mlim mkpt msyn mcn : Int32) (mk ms mc me ch : AR) (H : Heap) (locs : List Loc) (ls : Array Slot), Inv lim kpt syn tk ts tl th tt tv uk us ul uh ut uv ln rw_ mlim mkpt msyn mcn mk ms mc me ch → va_P (dC, dI) vwCl ((wX2 cI h0 ht0 ht1 ht2 ht3 ht4 ht5 ht6 hu0 hu1 hu2 hu3 hu4 hu5 hu6 hg0 hg1 lim kpt syn tk ts tl th tt tv uk us ul uh ut uv ln rw_) ++ (wX3 cI m0 m1 m2 m3 m4 m5 mlim mkpt msyn mcn mk ms mc me ch)) H → va_D (fun q : Nat => s.heap.size ≤ q) ((wX2 cI h0 ht0 ht1 ht2 ht3 ht4 ht5 ht6 hu0 hu1 hu2 hu3 hu4 hu5 hu6 hg0 hg1 lim kpt syn tk ts tl th tt tv uk us ul uh ut uv ln rw_) ++ (wX3 cI m0 m1 m2 m3 m4 m5 mlim mkpt msyn mcn mk ms mc me ch)) → va_S (fun q : Nat => s.heap.size ≤ q) s.heap H locs → lv_has ls 4 [(3, .int (nI (i))), (0, .ref b), (1, .ref h0), (2, .ref m0)] → W p l e room_1 s m #[Value.ref b] below meth c H locs 23 3893 (lw_Z below #[Value.ref b] s) (F0 m 408 ls []) := by
  obtain ⟨hx, hb, hr, hml, hown, hts, hX, hbl, hlocks, hgv⟩ := id C0
  have hown : s.vm.findClass RL = some m.cls := hown
  have hbA : ¬ (fun q : Nat => s.heap.size ≤ q) b := Nat.not_le.mpr hbl
  intro lim kpt syn tk ts tl th tt tv uk us ul uh ut uv ln rw_ mlim mkpt msyn mcn mk ms mc me ch H locs ls I hP hD hS hl
  refine lv_aload_n hx hb dL_law_408 rfl (lv_at hl 2 rfl) ?_
  refine lv_aload_n hx hb dL_law_409 rfl (lv_at hl 1 rfl) ?_
  refine lv_iload_n hx hb dL_law_410 rfl (lv_at hl 0 rfl) ?_
  refine lv_iconst (v := 1) hx hb dL_law_411 (by decide) ?_
  refine lv_iadd hx hb dL_law_412 ?_
  refine rw_nm (y := nI (i + 1)) (p1 i).symm ?_
  refine va_sld hx hb hX hbl hbA hS (vp_in_nI (n := i + 1) (by omega) (by omega)) dL_law_413 ?_
  refine rw_nm (y := xs (i + 1)) (by rw [nI_clamp (by omega)]) ?_
  refine lv_aload_n hx hb dL_law_414 rfl (lv_at hl 1 rfl) ?_
  refine lv_iload_n hx hb dL_law_415 rfl (lv_at hl 0 rfl) ?_
  refine lv_iconst (v := 2) hx hb dL_law_416 (by decide) ?_
  refine lv_iadd hx hb dL_law_417 ?_
  refine rw_nm (y := nI (i + 2)) (p2 i).symm ?_
  refine va_sld hx hb hX hbl hbA hS (vp_in_nI (n := i + 2) (by omega) (by omega)) dL_law_418 ?_
  refine rw_nm (y := xs (i + 2)) (by rw [nI_clamp (by omega)]) ?_
  obtain ⟨r, o1, o2⟩ := call_find I (xs (i + 1)) (xs (i + 2))
  refine callRi (va_runV (As := [.int (xs (i + 1)), .int (xs (i + 2))]) (rest := []) ⟨hx, hb, hml, hown, hts⟩ (cX2_find_met l dC dI cI h0 ht0 ht1 ht2 ht3 ht4 ht5 ht6 hu0 hu1 hu2 hu3 hu4 hu5 hu6 hg0 hg1 lim kpt syn tk ts tl th tt tv uk us ul uh ut uv ln rw_ (xs (i + 1)) (xs (i + 2)) r o1) (cwV 2 hts (gInL (memV q_193 q_194 q_195 q_1 q_196)) rfl rfl rfl (by decide +kernel) ⟨(Nat.le_of_ble_eq_true rfl), (Nat.le_of_ble_eq_true rfl)⟩) (preRV (ci := 2) (q0 := 0) hK (va_Pl hP) rfl rfl) rfl rfl hl.1 rfl (lv_room (Nat.le_of_ble_eq_true rfl)) dL_law_419 ⟨(Nat.le_of_ble_eq_true rfl), (Nat.le_of_ble_eq_true rfl)⟩) hS hP (fun H locs hP hS => ?_)
  refine lv_aload_n hx hb dL_law_422 rfl (lv_at hl 3 rfl) ?_
  refine lv_aload_n hx hb dL_law_423 rfl (lv_at hl 1 rfl) ?_
  refine lv_iload_n hx hb dL_law_424 rfl (lv_at hl 0 rfl) ?_
  refine lv_iconst (v := 1) hx hb dL_law_425 (by decide) ?_
  refine lv_iadd hx hb dL_law_426 ?_
  refine rw_nm (y := nI (i + 1)) (p1 i).symm ?_
  refine va_sld hx hb hX hbl hbA hS (vp_in_nI (n := i + 1) (by omega) (by omega)) dL_law_427 ?_
  refine rw_nm (y := xs (i + 1)) (by rw [nI_clamp (by omega)]) ?_
  refine lv_aload_n hx hb dL_law_428 rfl (lv_at hl 1 rfl) ?_
  refine lv_iload_n hx hb dL_law_429 rfl (lv_at hl 0 rfl) ?_
  refine lv_iconst (v := 2) hx hb dL_law_430 (by decide) ?_
  refine lv_iadd hx hb dL_law_431 ?_
  refine rw_nm (y := nI (i + 2)) (p2 i).symm ?_
  refine va_sld hx hb hX hbl hbA hS (vp_in_nI (n := i + 2) (by omega) (by omega)) dL_law_432 ?_
  refine rw_nm (y := xs (i + 2)) (by rw [nI_clamp (by omega)]) ?_
  refine callRi (va_runV (As := [.int (xs (i + 1)), .int (xs (i + 2))]) (rest := [.int r]) ⟨hx, hb, hml, hown, hts⟩ (cX3_find_met l dC dI cI m0 m1 m2 m3 m4 m5 mlim mkpt msyn mcn mk ms mc me ch (xs (i + 1)) (xs (i + 2)) r o2) (cwV 2 hts (gInL (memV q_323 q_324 q_325 q_5 q_326)) rfl rfl rfl (by decide +kernel) ⟨(Nat.le_of_ble_eq_true rfl), (Nat.le_of_ble_eq_true rfl)⟩) (preRV (ci := 3) (q0 := 0) hK (va_Pr hP) rfl rfl) rfl rfl hl.1 rfl (lv_room (Nat.le_of_ble_eq_true rfl)) dL_law_433 ⟨(Nat.le_of_ble_eq_true rfl), (Nat.le_of_ble_eq_true rfl)⟩) hS hP (fun H locs hP hS => ?_)
  refine lv_icmp_eq (tgt := 564) hx hb dL_law_436 (by decide) (fun _ => ?_) (fun q => absurd rfl q)
  refine lv_iinc (v := nI (i + 5)) (lv' := [(3, .int (nI (i + 5))), (0, .ref b), (1, .ref h0), (2, .ref m0)]) hx hb dL_law_564 hl (k := 0) rfl (nI_add i 5) (by decide) rfl (fun ls hl => ?_)
  refine lv_goto (tgt := 28) hx hb dL_law_567 (by decide) ?_
  exact cont lim kpt syn tk ts tl th tt tv uk us ul uh ut uv ln rw_ mlim mkpt msyn mcn mk ms mc me ch H locs ls I hP hD hS hl
set_option maxHeartbeats 4000000 in
set_option maxRecDepth 100000 in
theorem law_entry {p : Program} {l : Launch} {e : Env} {s : State} {m : MethodId} {below : List Frame} {meth : Method} {c : Code} {dC : Nat → ClassId} {dI : Nat → Nat → Nat} {cI : ClassId} {b L : Nat} {xs : Nat → Int32} (hL : L ≤ 2561) (C0 : lw_At p s m meth c b L xs) (hK : va_K (dC, dI) vwCl [(cI, .int)] s) (h0 ht0 ht1 ht2 ht3 ht4 ht5 ht6 hu0 hu1 hu2 hu3 hu4 hu5 hu6 hg0 hg1 m0 m1 m2 m3 m4 m5 : Nat) {i : Nat} (hi : i + 5 ≤ L) (cont : ∀ (lim kpt syn : Int32) (tk ts tl th tt tv uk us ul uh ut uv : AR) (ln : Int32) (rw_ : AR) (mlim mkpt msyn mcn : Int32) (mk ms mc me ch : AR) (H : Heap) (locs : List Loc) (ls : Array Slot), Inv lim kpt syn tk ts tl th tt tv uk us ul uh ut uv ln rw_ mlim mkpt msyn mcn mk ms mc me ch → va_P (dC, dI) vwCl ((wX2 cI h0 ht0 ht1 ht2 ht3 ht4 ht5 ht6 hu0 hu1 hu2 hu3 hu4 hu5 hu6 hg0 hg1 lim kpt syn tk ts tl th tt tv uk us ul uh ut uv ln rw_) ++ (wX3 cI m0 m1 m2 m3 m4 m5 mlim mkpt msyn mcn mk ms mc me ch)) H → va_D (fun q : Nat => s.heap.size ≤ q) ((wX2 cI h0 ht0 ht1 ht2 ht3 ht4 ht5 ht6 hu0 hu1 hu2 hu3 hu4 hu5 hu6 hg0 hg1 lim kpt syn tk ts tl th tt tv uk us ul uh ut uv ln rw_) ++ (wX3 cI m0 m1 m2 m3 m4 m5 mlim mkpt msyn mcn mk ms mc me ch)) → va_S (fun q : Nat => s.heap.size ≤ q) s.heap H locs → lv_has ls 4 [(3, .int (nI (i + 5))), (0, .ref b), (1, .ref h0), (2, .ref m0)] → W p l e room_1 s m #[Value.ref b] below meth c H locs 23 3893 (lw_Z below #[Value.ref b] s) (F0 m 28 ls [])) : ∀ (lim kpt syn : Int32) (tk ts tl th tt tv uk us ul uh ut uv : AR) (ln : Int32) (rw_ : AR) (mlim mkpt msyn mcn : Int32) (mk ms mc me ch : AR) (H : Heap) (locs : List Loc) (ls : Array Slot), Inv lim kpt syn tk ts tl th tt tv uk us ul uh ut uv ln rw_ mlim mkpt msyn mcn mk ms mc me ch → va_P (dC, dI) vwCl ((wX2 cI h0 ht0 ht1 ht2 ht3 ht4 ht5 ht6 hu0 hu1 hu2 hu3 hu4 hu5 hu6 hg0 hg1 lim kpt syn tk ts tl th tt tv uk us ul uh ut uv ln rw_) ++ (wX3 cI m0 m1 m2 m3 m4 m5 mlim mkpt msyn mcn mk ms mc me ch)) H → va_D (fun q : Nat => s.heap.size ≤ q) ((wX2 cI h0 ht0 ht1 ht2 ht3 ht4 ht5 ht6 hu0 hu1 hu2 hu3 hu4 hu5 hu6 hg0 hg1 lim kpt syn tk ts tl th tt tv uk us ul uh ut uv ln rw_) ++ (wX3 cI m0 m1 m2 m3 m4 m5 mlim mkpt msyn mcn mk ms mc me ch)) → va_S (fun q : Nat => s.heap.size ≤ q) s.heap H locs → lv_has ls 4 [(3, .int (nI (i))), (0, .ref b), (1, .ref h0), (2, .ref m0)] → W p l e room_1 s m #[Value.ref b] below meth c H locs 23 3893 (lw_Z below #[Value.ref b] s) (F0 m 441 ls []) := by
  obtain ⟨hx, hb, hr, hml, hown, hts, hX, hbl, hlocks, hgv⟩ := id C0
  have hown : s.vm.findClass RL = some m.cls := hown
  have hbA : ¬ (fun q : Nat => s.heap.size ≤ q) b := Nat.not_le.mpr hbl
  intro lim kpt syn tk ts tl th tt tv uk us ul uh ut uv ln rw_ mlim mkpt msyn mcn mk ms mc me ch H locs ls I hP hD hS hl
  refine lv_aload_n hx hb dL_law_441 rfl (lv_at hl 2 rfl) ?_
  refine lv_aload_n hx hb dL_law_442 rfl (lv_at hl 1 rfl) ?_
  refine lv_iload_n hx hb dL_law_443 rfl (lv_at hl 0 rfl) ?_
  refine lv_iconst (v := 1) hx hb dL_law_444 (by decide) ?_
  refine lv_iadd hx hb dL_law_445 ?_
  refine rw_nm (y := nI (i + 1)) (p1 i).symm ?_
  refine va_sld hx hb hX hbl hbA hS (vp_in_nI (n := i + 1) (by omega) (by omega)) dL_law_446 ?_
  refine rw_nm (y := xs (i + 1)) (by rw [nI_clamp (by omega)]) ?_
  refine lv_aload_n hx hb dL_law_447 rfl (lv_at hl 1 rfl) ?_
  refine lv_iload_n hx hb dL_law_448 rfl (lv_at hl 0 rfl) ?_
  refine lv_iconst (v := 2) hx hb dL_law_449 (by decide) ?_
  refine lv_iadd hx hb dL_law_450 ?_
  refine rw_nm (y := nI (i + 2)) (p2 i).symm ?_
  refine va_sld hx hb hX hbl hbA hS (vp_in_nI (n := i + 2) (by omega) (by omega)) dL_law_451 ?_
  refine rw_nm (y := xs (i + 2)) (by rw [nI_clamp (by omega)]) ?_
  obtain ⟨r, o1, o2⟩ := call_entry I (xs (i + 1)) (xs (i + 2))
  refine callRi (va_runV (As := [.int (xs (i + 1)), .int (xs (i + 2))]) (rest := []) ⟨hx, hb, hml, hown, hts⟩ (cX2_entry_met l dC dI cI h0 ht0 ht1 ht2 ht3 ht4 ht5 ht6 hu0 hu1 hu2 hu3 hu4 hu5 hu6 hg0 hg1 lim kpt syn tk ts tl th tt tv uk us ul uh ut uv ln rw_ (xs (i + 1)) (xs (i + 2)) r o1) (cwV 2 hts (gInL (memV q_197 q_198 q_199 q_1 q_200)) rfl rfl rfl (by decide +kernel) ⟨(Nat.le_of_ble_eq_true rfl), (Nat.le_of_ble_eq_true rfl)⟩) (preRV (ci := 2) (q0 := 0) hK (va_Pl hP) rfl rfl) rfl rfl hl.1 rfl (lv_room (Nat.le_of_ble_eq_true rfl)) dL_law_452 ⟨(Nat.le_of_ble_eq_true rfl), (Nat.le_of_ble_eq_true rfl)⟩) hS hP (fun H locs hP hS => ?_)
  refine lv_aload_n hx hb dL_law_455 rfl (lv_at hl 3 rfl) ?_
  refine lv_aload_n hx hb dL_law_456 rfl (lv_at hl 1 rfl) ?_
  refine lv_iload_n hx hb dL_law_457 rfl (lv_at hl 0 rfl) ?_
  refine lv_iconst (v := 1) hx hb dL_law_458 (by decide) ?_
  refine lv_iadd hx hb dL_law_459 ?_
  refine rw_nm (y := nI (i + 1)) (p1 i).symm ?_
  refine va_sld hx hb hX hbl hbA hS (vp_in_nI (n := i + 1) (by omega) (by omega)) dL_law_460 ?_
  refine rw_nm (y := xs (i + 1)) (by rw [nI_clamp (by omega)]) ?_
  refine lv_aload_n hx hb dL_law_461 rfl (lv_at hl 1 rfl) ?_
  refine lv_iload_n hx hb dL_law_462 rfl (lv_at hl 0 rfl) ?_
  refine lv_iconst (v := 2) hx hb dL_law_463 (by decide) ?_
  refine lv_iadd hx hb dL_law_464 ?_
  refine rw_nm (y := nI (i + 2)) (p2 i).symm ?_
  refine va_sld hx hb hX hbl hbA hS (vp_in_nI (n := i + 2) (by omega) (by omega)) dL_law_465 ?_
  refine rw_nm (y := xs (i + 2)) (by rw [nI_clamp (by omega)]) ?_
  refine callRi (va_runV (As := [.int (xs (i + 1)), .int (xs (i + 2))]) (rest := [.int r]) ⟨hx, hb, hml, hown, hts⟩ (cX3_entry_met l dC dI cI m0 m1 m2 m3 m4 m5 mlim mkpt msyn mcn mk ms mc me ch (xs (i + 1)) (xs (i + 2)) r o2) (cwV 2 hts (gInL (memV q_327 q_328 q_329 q_5 q_330)) rfl rfl rfl (by decide +kernel) ⟨(Nat.le_of_ble_eq_true rfl), (Nat.le_of_ble_eq_true rfl)⟩) (preRV (ci := 3) (q0 := 0) hK (va_Pr hP) rfl rfl) rfl rfl hl.1 rfl (lv_room (Nat.le_of_ble_eq_true rfl)) dL_law_466 ⟨(Nat.le_of_ble_eq_true rfl), (Nat.le_of_ble_eq_true rfl)⟩) hS hP (fun H locs hP hS => ?_)
  refine lv_icmp_eq (tgt := 564) hx hb dL_law_469 (by decide) (fun _ => ?_) (fun q => absurd rfl q)
  refine lv_iinc (v := nI (i + 5)) (lv' := [(3, .int (nI (i + 5))), (0, .ref b), (1, .ref h0), (2, .ref m0)]) hx hb dL_law_564 hl (k := 0) rfl (nI_add i 5) (by decide) rfl (fun ls hl => ?_)
  refine lv_goto (tgt := 28) hx hb dL_law_567 (by decide) ?_
  exact cont lim kpt syn tk ts tl th tt tv uk us ul uh ut uv ln rw_ mlim mkpt msyn mcn mk ms mc me ch H locs ls I hP hD hS hl
set_option maxHeartbeats 4000000 in
set_option maxRecDepth 100000 in
theorem law_read {p : Program} {l : Launch} {e : Env} {s : State} {m : MethodId} {below : List Frame} {meth : Method} {c : Code} {dC : Nat → ClassId} {dI : Nat → Nat → Nat} {cI : ClassId} {b L : Nat} {xs : Nat → Int32} (hL : L ≤ 2561) (C0 : lw_At p s m meth c b L xs) (hK : va_K (dC, dI) vwCl [(cI, .int)] s) (h0 ht0 ht1 ht2 ht3 ht4 ht5 ht6 hu0 hu1 hu2 hu3 hu4 hu5 hu6 hg0 hg1 m0 m1 m2 m3 m4 m5 : Nat) {i : Nat} (hi : i + 5 ≤ L) (cont : ∀ (lim kpt syn : Int32) (tk ts tl th tt tv uk us ul uh ut uv : AR) (ln : Int32) (rw_ : AR) (mlim mkpt msyn mcn : Int32) (mk ms mc me ch : AR) (H : Heap) (locs : List Loc) (ls : Array Slot), Inv lim kpt syn tk ts tl th tt tv uk us ul uh ut uv ln rw_ mlim mkpt msyn mcn mk ms mc me ch → va_P (dC, dI) vwCl ((wX2 cI h0 ht0 ht1 ht2 ht3 ht4 ht5 ht6 hu0 hu1 hu2 hu3 hu4 hu5 hu6 hg0 hg1 lim kpt syn tk ts tl th tt tv uk us ul uh ut uv ln rw_) ++ (wX3 cI m0 m1 m2 m3 m4 m5 mlim mkpt msyn mcn mk ms mc me ch)) H → va_D (fun q : Nat => s.heap.size ≤ q) ((wX2 cI h0 ht0 ht1 ht2 ht3 ht4 ht5 ht6 hu0 hu1 hu2 hu3 hu4 hu5 hu6 hg0 hg1 lim kpt syn tk ts tl th tt tv uk us ul uh ut uv ln rw_) ++ (wX3 cI m0 m1 m2 m3 m4 m5 mlim mkpt msyn mcn mk ms mc me ch)) → va_S (fun q : Nat => s.heap.size ≤ q) s.heap H locs → lv_has ls 4 [(3, .int (nI (i + 5))), (0, .ref b), (1, .ref h0), (2, .ref m0)] → W p l e room_1 s m #[Value.ref b] below meth c H locs 23 3893 (lw_Z below #[Value.ref b] s) (F0 m 28 ls [])) : ∀ (lim kpt syn : Int32) (tk ts tl th tt tv uk us ul uh ut uv : AR) (ln : Int32) (rw_ : AR) (mlim mkpt msyn mcn : Int32) (mk ms mc me ch : AR) (H : Heap) (locs : List Loc) (ls : Array Slot), Inv lim kpt syn tk ts tl th tt tv uk us ul uh ut uv ln rw_ mlim mkpt msyn mcn mk ms mc me ch → va_P (dC, dI) vwCl ((wX2 cI h0 ht0 ht1 ht2 ht3 ht4 ht5 ht6 hu0 hu1 hu2 hu3 hu4 hu5 hu6 hg0 hg1 lim kpt syn tk ts tl th tt tv uk us ul uh ut uv ln rw_) ++ (wX3 cI m0 m1 m2 m3 m4 m5 mlim mkpt msyn mcn mk ms mc me ch)) H → va_D (fun q : Nat => s.heap.size ≤ q) ((wX2 cI h0 ht0 ht1 ht2 ht3 ht4 ht5 ht6 hu0 hu1 hu2 hu3 hu4 hu5 hu6 hg0 hg1 lim kpt syn tk ts tl th tt tv uk us ul uh ut uv ln rw_) ++ (wX3 cI m0 m1 m2 m3 m4 m5 mlim mkpt msyn mcn mk ms mc me ch)) → va_S (fun q : Nat => s.heap.size ≤ q) s.heap H locs → lv_has ls 4 [(3, .int (nI (i))), (0, .ref b), (1, .ref h0), (2, .ref m0)] → W p l e room_1 s m #[Value.ref b] below meth c H locs 23 3893 (lw_Z below #[Value.ref b] s) (F0 m 474 ls []) := by
  obtain ⟨hx, hb, hr, hml, hown, hts, hX, hbl, hlocks, hgv⟩ := id C0
  have hown : s.vm.findClass RL = some m.cls := hown
  have hbA : ¬ (fun q : Nat => s.heap.size ≤ q) b := Nat.not_le.mpr hbl
  intro lim kpt syn tk ts tl th tt tv uk us ul uh ut uv ln rw_ mlim mkpt msyn mcn mk ms mc me ch H locs ls I hP hD hS hl
  refine lv_aload_n hx hb dL_law_474 rfl (lv_at hl 2 rfl) ?_
  refine lv_aload_n hx hb dL_law_475 rfl (lv_at hl 1 rfl) ?_
  refine lv_iload_n hx hb dL_law_476 rfl (lv_at hl 0 rfl) ?_
  refine lv_iconst (v := 1) hx hb dL_law_477 (by decide) ?_
  refine lv_iadd hx hb dL_law_478 ?_
  refine rw_nm (y := nI (i + 1)) (p1 i).symm ?_
  refine va_sld hx hb hX hbl hbA hS (vp_in_nI (n := i + 1) (by omega) (by omega)) dL_law_479 ?_
  refine rw_nm (y := xs (i + 1)) (by rw [nI_clamp (by omega)]) ?_
  refine lv_aload_n hx hb dL_law_480 rfl (lv_at hl 1 rfl) ?_
  refine lv_iload_n hx hb dL_law_481 rfl (lv_at hl 0 rfl) ?_
  refine lv_iconst (v := 2) hx hb dL_law_482 (by decide) ?_
  refine lv_iadd hx hb dL_law_483 ?_
  refine rw_nm (y := nI (i + 2)) (p2 i).symm ?_
  refine va_sld hx hb hX hbl hbA hS (vp_in_nI (n := i + 2) (by omega) (by omega)) dL_law_484 ?_
  refine rw_nm (y := xs (i + 2)) (by rw [nI_clamp (by omega)]) ?_
  obtain ⟨r, o1, o2⟩ := call_read I (xs (i + 1)) (xs (i + 2))
  refine callRl (va_runV (As := [.int (xs (i + 1)), .int (xs (i + 2))]) (rest := []) ⟨hx, hb, hml, hown, hts⟩ (cX2_read_met l dC dI cI h0 ht0 ht1 ht2 ht3 ht4 ht5 ht6 hu0 hu1 hu2 hu3 hu4 hu5 hu6 hg0 hg1 lim kpt syn tk ts tl th tt tv uk us ul uh ut uv ln rw_ (xs (i + 1)) (xs (i + 2)) r o1) (cwV 2 hts (gInL (memV q_205 q_206 q_207 q_1 q_208)) rfl rfl rfl (by decide +kernel) ⟨(Nat.le_of_ble_eq_true rfl), (Nat.le_of_ble_eq_true rfl)⟩) (preRV (ci := 2) (q0 := 0) hK (va_Pl hP) rfl rfl) rfl rfl hl.1 rfl (lv_room (Nat.le_of_ble_eq_true rfl)) dL_law_485 ⟨(Nat.le_of_ble_eq_true rfl), (Nat.le_of_ble_eq_true rfl)⟩) hS hP (fun H locs hP hS => ?_)
  refine lv_aload_n hx hb dL_law_488 rfl (lv_at hl 3 rfl) ?_
  refine lv_aload_n hx hb dL_law_489 rfl (lv_at hl 1 rfl) ?_
  refine lv_iload_n hx hb dL_law_490 rfl (lv_at hl 0 rfl) ?_
  refine lv_iconst (v := 1) hx hb dL_law_491 (by decide) ?_
  refine lv_iadd hx hb dL_law_492 ?_
  refine rw_nm (y := nI (i + 1)) (p1 i).symm ?_
  refine va_sld hx hb hX hbl hbA hS (vp_in_nI (n := i + 1) (by omega) (by omega)) dL_law_493 ?_
  refine rw_nm (y := xs (i + 1)) (by rw [nI_clamp (by omega)]) ?_
  refine lv_aload_n hx hb dL_law_494 rfl (lv_at hl 1 rfl) ?_
  refine lv_iload_n hx hb dL_law_495 rfl (lv_at hl 0 rfl) ?_
  refine lv_iconst (v := 2) hx hb dL_law_496 (by decide) ?_
  refine lv_iadd hx hb dL_law_497 ?_
  refine rw_nm (y := nI (i + 2)) (p2 i).symm ?_
  refine va_sld hx hb hX hbl hbA hS (vp_in_nI (n := i + 2) (by omega) (by omega)) dL_law_498 ?_
  refine rw_nm (y := xs (i + 2)) (by rw [nI_clamp (by omega)]) ?_
  refine callRl (va_runV (As := [.int (xs (i + 1)), .int (xs (i + 2))]) (rest := [.long r]) ⟨hx, hb, hml, hown, hts⟩ (cX3_read_met l dC dI cI m0 m1 m2 m3 m4 m5 mlim mkpt msyn mcn mk ms mc me ch (xs (i + 1)) (xs (i + 2)) r o2) (cwV 2 hts (gInL (memV q_331 q_332 q_333 q_5 q_334)) rfl rfl rfl (by decide +kernel) ⟨(Nat.le_of_ble_eq_true rfl), (Nat.le_of_ble_eq_true rfl)⟩) (preRV (ci := 3) (q0 := 0) hK (va_Pr hP) rfl rfl) rfl rfl hl.1 rfl (lv_room (Nat.le_of_ble_eq_true rfl)) dL_law_499 ⟨(Nat.le_of_ble_eq_true rfl), (Nat.le_of_ble_eq_true rfl)⟩) hS hP (fun H locs hP hS => ?_)
  refine W.lcmp hx hb dL_law_502 ?_
  refine rw_nm (y := 0) (by unfold lg_cmp; rw [if_neg (show ¬ r > r from fun h => Int64.lt_irrefl h), if_pos rfl]) ?_
  refine lv_if_eq (tgt := 564) hx hb dL_law_503 (by decide) (fun _ => ?_) (fun q => absurd rfl q)
  refine lv_iinc (v := nI (i + 5)) (lv' := [(3, .int (nI (i + 5))), (0, .ref b), (1, .ref h0), (2, .ref m0)]) hx hb dL_law_564 hl (k := 0) rfl (nI_add i 5) (by decide) rfl (fun ls hl => ?_)
  refine lv_goto (tgt := 28) hx hb dL_law_567 (by decide) ?_
  exact cont lim kpt syn tk ts tl th tt tv uk us ul uh ut uv ln rw_ mlim mkpt msyn mcn mk ms mc me ch H locs ls I hP hD hS hl
set_option maxHeartbeats 4000000 in
set_option maxRecDepth 100000 in
theorem law_tell {p : Program} {l : Launch} {e : Env} {s : State} {m : MethodId} {below : List Frame} {meth : Method} {c : Code} {dC : Nat → ClassId} {dI : Nat → Nat → Nat} {cI : ClassId} {b L : Nat} {xs : Nat → Int32} (hL : L ≤ 2561) (C0 : lw_At p s m meth c b L xs) (hK : va_K (dC, dI) vwCl [(cI, .int)] s) (h0 ht0 ht1 ht2 ht3 ht4 ht5 ht6 hu0 hu1 hu2 hu3 hu4 hu5 hu6 hg0 hg1 m0 m1 m2 m3 m4 m5 : Nat) {i : Nat} (hi : i + 5 ≤ L) (cont : ∀ (lim kpt syn : Int32) (tk ts tl th tt tv uk us ul uh ut uv : AR) (ln : Int32) (rw_ : AR) (mlim mkpt msyn mcn : Int32) (mk ms mc me ch : AR) (H : Heap) (locs : List Loc) (ls : Array Slot), Inv lim kpt syn tk ts tl th tt tv uk us ul uh ut uv ln rw_ mlim mkpt msyn mcn mk ms mc me ch → va_P (dC, dI) vwCl ((wX2 cI h0 ht0 ht1 ht2 ht3 ht4 ht5 ht6 hu0 hu1 hu2 hu3 hu4 hu5 hu6 hg0 hg1 lim kpt syn tk ts tl th tt tv uk us ul uh ut uv ln rw_) ++ (wX3 cI m0 m1 m2 m3 m4 m5 mlim mkpt msyn mcn mk ms mc me ch)) H → va_D (fun q : Nat => s.heap.size ≤ q) ((wX2 cI h0 ht0 ht1 ht2 ht3 ht4 ht5 ht6 hu0 hu1 hu2 hu3 hu4 hu5 hu6 hg0 hg1 lim kpt syn tk ts tl th tt tv uk us ul uh ut uv ln rw_) ++ (wX3 cI m0 m1 m2 m3 m4 m5 mlim mkpt msyn mcn mk ms mc me ch)) → va_S (fun q : Nat => s.heap.size ≤ q) s.heap H locs → lv_has ls 4 [(3, .int (nI (i + 5))), (0, .ref b), (1, .ref h0), (2, .ref m0)] → W p l e room_1 s m #[Value.ref b] below meth c H locs 23 3893 (lw_Z below #[Value.ref b] s) (F0 m 28 ls [])) : ∀ (lim kpt syn : Int32) (tk ts tl th tt tv uk us ul uh ut uv : AR) (ln : Int32) (rw_ : AR) (mlim mkpt msyn mcn : Int32) (mk ms mc me ch : AR) (H : Heap) (locs : List Loc) (ls : Array Slot), Inv lim kpt syn tk ts tl th tt tv uk us ul uh ut uv ln rw_ mlim mkpt msyn mcn mk ms mc me ch → va_P (dC, dI) vwCl ((wX2 cI h0 ht0 ht1 ht2 ht3 ht4 ht5 ht6 hu0 hu1 hu2 hu3 hu4 hu5 hu6 hg0 hg1 lim kpt syn tk ts tl th tt tv uk us ul uh ut uv ln rw_) ++ (wX3 cI m0 m1 m2 m3 m4 m5 mlim mkpt msyn mcn mk ms mc me ch)) H → va_D (fun q : Nat => s.heap.size ≤ q) ((wX2 cI h0 ht0 ht1 ht2 ht3 ht4 ht5 ht6 hu0 hu1 hu2 hu3 hu4 hu5 hu6 hg0 hg1 lim kpt syn tk ts tl th tt tv uk us ul uh ut uv ln rw_) ++ (wX3 cI m0 m1 m2 m3 m4 m5 mlim mkpt msyn mcn mk ms mc me ch)) → va_S (fun q : Nat => s.heap.size ≤ q) s.heap H locs → lv_has ls 4 [(3, .int (nI (i))), (0, .ref b), (1, .ref h0), (2, .ref m0)] → W p l e room_1 s m #[Value.ref b] below meth c H locs 23 3893 (lw_Z below #[Value.ref b] s) (F0 m 508 ls []) := by
  obtain ⟨hx, hb, hr, hml, hown, hts, hX, hbl, hlocks, hgv⟩ := id C0
  have hown : s.vm.findClass RL = some m.cls := hown
  have hbA : ¬ (fun q : Nat => s.heap.size ≤ q) b := Nat.not_le.mpr hbl
  intro lim kpt syn tk ts tl th tt tv uk us ul uh ut uv ln rw_ mlim mkpt msyn mcn mk ms mc me ch H locs ls I hP hD hS hl
  refine lv_aload_n hx hb dL_law_508 rfl (lv_at hl 2 rfl) ?_
  refine lv_aload_n hx hb dL_law_509 rfl (lv_at hl 1 rfl) ?_
  refine lv_iload_n hx hb dL_law_510 rfl (lv_at hl 0 rfl) ?_
  refine lv_iconst (v := 1) hx hb dL_law_511 (by decide) ?_
  refine lv_iadd hx hb dL_law_512 ?_
  refine rw_nm (y := nI (i + 1)) (p1 i).symm ?_
  refine va_sld hx hb hX hbl hbA hS (vp_in_nI (n := i + 1) (by omega) (by omega)) dL_law_513 ?_
  refine rw_nm (y := xs (i + 1)) (by rw [nI_clamp (by omega)]) ?_
  refine lv_aload_n hx hb dL_law_514 rfl (lv_at hl 1 rfl) ?_
  refine lv_iload_n hx hb dL_law_515 rfl (lv_at hl 0 rfl) ?_
  refine lv_iconst (v := 2) hx hb dL_law_516 (by decide) ?_
  refine lv_iadd hx hb dL_law_517 ?_
  refine rw_nm (y := nI (i + 2)) (p2 i).symm ?_
  refine va_sld hx hb hX hbl hbA hS (vp_in_nI (n := i + 2) (by omega) (by omega)) dL_law_518 ?_
  refine rw_nm (y := xs (i + 2)) (by rw [nI_clamp (by omega)]) ?_
  obtain ⟨r, o1, o2⟩ := call_tell I (xs (i + 1)) (xs (i + 2))
  refine callRi (va_runV (As := [.int (xs (i + 1)), .int (xs (i + 2))]) (rest := []) ⟨hx, hb, hml, hown, hts⟩ (cX2_tell_met l dC dI cI h0 ht0 ht1 ht2 ht3 ht4 ht5 ht6 hu0 hu1 hu2 hu3 hu4 hu5 hu6 hg0 hg1 lim kpt syn tk ts tl th tt tv uk us ul uh ut uv ln rw_ (xs (i + 1)) (xs (i + 2)) r o1) (cwV 2 hts (gInL (memV q_214 q_215 q_216 q_1 q_217)) rfl rfl rfl (by decide +kernel) ⟨(Nat.le_of_ble_eq_true rfl), (Nat.le_of_ble_eq_true rfl)⟩) (preRV (ci := 2) (q0 := 0) hK (va_Pl hP) rfl rfl) rfl rfl hl.1 rfl (lv_room (Nat.le_of_ble_eq_true rfl)) dL_law_519 ⟨(Nat.le_of_ble_eq_true rfl), (Nat.le_of_ble_eq_true rfl)⟩) hS hP (fun H locs hP hS => ?_)
  refine lv_aload_n hx hb dL_law_522 rfl (lv_at hl 3 rfl) ?_
  refine lv_aload_n hx hb dL_law_523 rfl (lv_at hl 1 rfl) ?_
  refine lv_iload_n hx hb dL_law_524 rfl (lv_at hl 0 rfl) ?_
  refine lv_iconst (v := 1) hx hb dL_law_525 (by decide) ?_
  refine lv_iadd hx hb dL_law_526 ?_
  refine rw_nm (y := nI (i + 1)) (p1 i).symm ?_
  refine va_sld hx hb hX hbl hbA hS (vp_in_nI (n := i + 1) (by omega) (by omega)) dL_law_527 ?_
  refine rw_nm (y := xs (i + 1)) (by rw [nI_clamp (by omega)]) ?_
  refine lv_aload_n hx hb dL_law_528 rfl (lv_at hl 1 rfl) ?_
  refine lv_iload_n hx hb dL_law_529 rfl (lv_at hl 0 rfl) ?_
  refine lv_iconst (v := 2) hx hb dL_law_530 (by decide) ?_
  refine lv_iadd hx hb dL_law_531 ?_
  refine rw_nm (y := nI (i + 2)) (p2 i).symm ?_
  refine va_sld hx hb hX hbl hbA hS (vp_in_nI (n := i + 2) (by omega) (by omega)) dL_law_532 ?_
  refine rw_nm (y := xs (i + 2)) (by rw [nI_clamp (by omega)]) ?_
  refine callRi (va_runV (As := [.int (xs (i + 1)), .int (xs (i + 2))]) (rest := [.int r]) ⟨hx, hb, hml, hown, hts⟩ (cX3_tell_met l dC dI cI m0 m1 m2 m3 m4 m5 mlim mkpt msyn mcn mk ms mc me ch (xs (i + 1)) (xs (i + 2)) r o2) (cwV 2 hts (gInL (memV q_336 q_337 q_338 q_5 q_339)) rfl rfl rfl (by decide +kernel) ⟨(Nat.le_of_ble_eq_true rfl), (Nat.le_of_ble_eq_true rfl)⟩) (preRV (ci := 3) (q0 := 0) hK (va_Pr hP) rfl rfl) rfl rfl hl.1 rfl (lv_room (Nat.le_of_ble_eq_true rfl)) dL_law_533 ⟨(Nat.le_of_ble_eq_true rfl), (Nat.le_of_ble_eq_true rfl)⟩) hS hP (fun H locs hP hS => ?_)
  refine lv_icmp_eq (tgt := 564) hx hb dL_law_536 (by decide) (fun _ => ?_) (fun q => absurd rfl q)
  refine lv_iinc (v := nI (i + 5)) (lv' := [(3, .int (nI (i + 5))), (0, .ref b), (1, .ref h0), (2, .ref m0)]) hx hb dL_law_564 hl (k := 0) rfl (nI_add i 5) (by decide) rfl (fun ls hl => ?_)
  refine lv_goto (tgt := 28) hx hb dL_law_567 (by decide) ?_
  exact cont lim kpt syn tk ts tl th tt tv uk us ul uh ut uv ln rw_ mlim mkpt msyn mcn mk ms mc me ch H locs ls I hP hD hS hl
set_option maxHeartbeats 4000000 in
set_option maxRecDepth 100000 in
theorem law_count {p : Program} {l : Launch} {e : Env} {s : State} {m : MethodId} {below : List Frame} {meth : Method} {c : Code} {dC : Nat → ClassId} {dI : Nat → Nat → Nat} {cI : ClassId} {b L : Nat} {xs : Nat → Int32} (hL : L ≤ 2561) (C0 : lw_At p s m meth c b L xs) (hK : va_K (dC, dI) vwCl [(cI, .int)] s) (h0 ht0 ht1 ht2 ht3 ht4 ht5 ht6 hu0 hu1 hu2 hu3 hu4 hu5 hu6 hg0 hg1 m0 m1 m2 m3 m4 m5 : Nat) {i : Nat} (hi : i + 5 ≤ L) (cont : ∀ (lim kpt syn : Int32) (tk ts tl th tt tv uk us ul uh ut uv : AR) (ln : Int32) (rw_ : AR) (mlim mkpt msyn mcn : Int32) (mk ms mc me ch : AR) (H : Heap) (locs : List Loc) (ls : Array Slot), Inv lim kpt syn tk ts tl th tt tv uk us ul uh ut uv ln rw_ mlim mkpt msyn mcn mk ms mc me ch → va_P (dC, dI) vwCl ((wX2 cI h0 ht0 ht1 ht2 ht3 ht4 ht5 ht6 hu0 hu1 hu2 hu3 hu4 hu5 hu6 hg0 hg1 lim kpt syn tk ts tl th tt tv uk us ul uh ut uv ln rw_) ++ (wX3 cI m0 m1 m2 m3 m4 m5 mlim mkpt msyn mcn mk ms mc me ch)) H → va_D (fun q : Nat => s.heap.size ≤ q) ((wX2 cI h0 ht0 ht1 ht2 ht3 ht4 ht5 ht6 hu0 hu1 hu2 hu3 hu4 hu5 hu6 hg0 hg1 lim kpt syn tk ts tl th tt tv uk us ul uh ut uv ln rw_) ++ (wX3 cI m0 m1 m2 m3 m4 m5 mlim mkpt msyn mcn mk ms mc me ch)) → va_S (fun q : Nat => s.heap.size ≤ q) s.heap H locs → lv_has ls 4 [(3, .int (nI (i + 5))), (0, .ref b), (1, .ref h0), (2, .ref m0)] → W p l e room_1 s m #[Value.ref b] below meth c H locs 23 3893 (lw_Z below #[Value.ref b] s) (F0 m 28 ls [])) : ∀ (lim kpt syn : Int32) (tk ts tl th tt tv uk us ul uh ut uv : AR) (ln : Int32) (rw_ : AR) (mlim mkpt msyn mcn : Int32) (mk ms mc me ch : AR) (H : Heap) (locs : List Loc) (ls : Array Slot), Inv lim kpt syn tk ts tl th tt tv uk us ul uh ut uv ln rw_ mlim mkpt msyn mcn mk ms mc me ch → va_P (dC, dI) vwCl ((wX2 cI h0 ht0 ht1 ht2 ht3 ht4 ht5 ht6 hu0 hu1 hu2 hu3 hu4 hu5 hu6 hg0 hg1 lim kpt syn tk ts tl th tt tv uk us ul uh ut uv ln rw_) ++ (wX3 cI m0 m1 m2 m3 m4 m5 mlim mkpt msyn mcn mk ms mc me ch)) H → va_D (fun q : Nat => s.heap.size ≤ q) ((wX2 cI h0 ht0 ht1 ht2 ht3 ht4 ht5 ht6 hu0 hu1 hu2 hu3 hu4 hu5 hu6 hg0 hg1 lim kpt syn tk ts tl th tt tv uk us ul uh ut uv ln rw_) ++ (wX3 cI m0 m1 m2 m3 m4 m5 mlim mkpt msyn mcn mk ms mc me ch)) → va_S (fun q : Nat => s.heap.size ≤ q) s.heap H locs → lv_has ls 4 [(3, .int (nI (i))), (0, .ref b), (1, .ref h0), (2, .ref m0)] → W p l e room_1 s m #[Value.ref b] below meth c H locs 23 3893 (lw_Z below #[Value.ref b] s) (F0 m 541 ls []) := by
  obtain ⟨hx, hb, hr, hml, hown, hts, hX, hbl, hlocks, hgv⟩ := id C0
  have hown : s.vm.findClass RL = some m.cls := hown
  have hbA : ¬ (fun q : Nat => s.heap.size ≤ q) b := Nat.not_le.mpr hbl
  intro lim kpt syn tk ts tl th tt tv uk us ul uh ut uv ln rw_ mlim mkpt msyn mcn mk ms mc me ch H locs ls I hP hD hS hl
  refine lv_aload_n hx hb dL_law_541 rfl (lv_at hl 2 rfl) ?_
  refine lv_aload_n hx hb dL_law_542 rfl (lv_at hl 1 rfl) ?_
  refine lv_iload_n hx hb dL_law_543 rfl (lv_at hl 0 rfl) ?_
  refine lv_iconst (v := 1) hx hb dL_law_544 (by decide) ?_
  refine lv_iadd hx hb dL_law_545 ?_
  refine rw_nm (y := nI (i + 1)) (p1 i).symm ?_
  refine va_sld hx hb hX hbl hbA hS (vp_in_nI (n := i + 1) (by omega) (by omega)) dL_law_546 ?_
  refine rw_nm (y := xs (i + 1)) (by rw [nI_clamp (by omega)]) ?_
  obtain ⟨r, o1, o2⟩ := call_count I (xs (i + 1))
  refine callRi (va_runV (As := [.int (xs (i + 1))]) (rest := []) ⟨hx, hb, hml, hown, hts⟩ (cX2_count_met l dC dI cI h0 ht0 ht1 ht2 ht3 ht4 ht5 ht6 hu0 hu1 hu2 hu3 hu4 hu5 hu6 hg0 hg1 lim kpt syn tk ts tl th tt tv uk us ul uh ut uv ln rw_ (xs (i + 1)) r o1) (cwV 1 hts (gInL (memV q_222 q_223 q_224 q_1 q_225)) rfl rfl rfl (by decide +kernel) ⟨(Nat.le_of_ble_eq_true rfl), (Nat.le_of_ble_eq_true rfl)⟩) (preRV (ci := 2) (q0 := 0) hK (va_Pl hP) rfl rfl) rfl rfl hl.1 rfl (lv_room (Nat.le_of_ble_eq_true rfl)) dL_law_547 ⟨(Nat.le_of_ble_eq_true rfl), (Nat.le_of_ble_eq_true rfl)⟩) hS hP (fun H locs hP hS => ?_)
  refine lv_aload_n hx hb dL_law_550 rfl (lv_at hl 3 rfl) ?_
  refine lv_aload_n hx hb dL_law_551 rfl (lv_at hl 1 rfl) ?_
  refine lv_iload_n hx hb dL_law_552 rfl (lv_at hl 0 rfl) ?_
  refine lv_iconst (v := 1) hx hb dL_law_553 (by decide) ?_
  refine lv_iadd hx hb dL_law_554 ?_
  refine rw_nm (y := nI (i + 1)) (p1 i).symm ?_
  refine va_sld hx hb hX hbl hbA hS (vp_in_nI (n := i + 1) (by omega) (by omega)) dL_law_555 ?_
  refine rw_nm (y := xs (i + 1)) (by rw [nI_clamp (by omega)]) ?_
  refine callRi (va_runV (As := [.int (xs (i + 1))]) (rest := [.int r]) ⟨hx, hb, hml, hown, hts⟩ (cX3_count_met l dC dI cI m0 m1 m2 m3 m4 m5 mlim mkpt msyn mcn mk ms mc me ch (xs (i + 1)) r o2) (cwV 1 hts (gInL (memV q_340 q_341 q_342 q_5 q_343)) rfl rfl rfl (by decide +kernel) ⟨(Nat.le_of_ble_eq_true rfl), (Nat.le_of_ble_eq_true rfl)⟩) (preRV (ci := 3) (q0 := 0) hK (va_Pr hP) rfl rfl) rfl rfl hl.1 rfl (lv_room (Nat.le_of_ble_eq_true rfl)) dL_law_556 ⟨(Nat.le_of_ble_eq_true rfl), (Nat.le_of_ble_eq_true rfl)⟩) hS hP (fun H locs hP hS => ?_)
  refine lv_icmp_eq (tgt := 564) hx hb dL_law_559 (by decide) (fun _ => ?_) (fun q => absurd rfl q)
  refine lv_iinc (v := nI (i + 5)) (lv' := [(3, .int (nI (i + 5))), (0, .ref b), (1, .ref h0), (2, .ref m0)]) hx hb dL_law_564 hl (k := 0) rfl (nI_add i 5) (by decide) rfl (fun ls hl => ?_)
  refine lv_goto (tgt := 28) hx hb dL_law_567 (by decide) ?_
  exact cont lim kpt syn tk ts tl th tt tv uk us ul uh ut uv ln rw_ mlim mkpt msyn mcn mk ms mc me ch H locs ls I hP hD hS hl
