set_option maxHeartbeats 4000000 in
set_option maxRecDepth 100000 in
theorem law_write {p : Program} {l : Launch} {e : Env} {s : State} {m : MethodId} {below : List Frame} {meth : Method} {c : Code} {dC : Nat → ClassId} {dI : Nat → Nat → Nat} {cI : ClassId} {b L : Nat} {xs : Nat → Int32} (hL : L ≤ 2561) (C0 : lw_At p s m meth c b L xs) (hK : va_K (dC, dI) vwCl [(cI, .int)] s) (h0 ht0 ht1 ht2 ht3 ht4 ht5 ht6 hu0 hu1 hu2 hu3 hu4 hu5 hu6 hg0 hg1 m0 m1 m2 m3 m4 m5 : Nat) {i : Nat} (hi : i + 5 ≤ L) (cont : ∀ (lim kpt syn : Int32) (tk ts tl th tt tv uk us ul uh ut uv : AR) (ln : Int32) (rw_ : AR) (mlim mkpt msyn mcn : Int32) (mk ms mc me ch : AR) (H : Heap) (locs : List Loc) (ls : Array Slot), Inv lim kpt syn tk ts tl th tt tv uk us ul uh ut uv ln rw_ mlim mkpt msyn mcn mk ms mc me ch → va_P (dC, dI) vwCl ((wX2 cI h0 ht0 ht1 ht2 ht3 ht4 ht5 ht6 hu0 hu1 hu2 hu3 hu4 hu5 hu6 hg0 hg1 lim kpt syn tk ts tl th tt tv uk us ul uh ut uv ln rw_) ++ (wX3 cI m0 m1 m2 m3 m4 m5 mlim mkpt msyn mcn mk ms mc me ch)) H → va_D (fun q : Nat => s.heap.size ≤ q) ((wX2 cI h0 ht0 ht1 ht2 ht3 ht4 ht5 ht6 hu0 hu1 hu2 hu3 hu4 hu5 hu6 hg0 hg1 lim kpt syn tk ts tl th tt tv uk us ul uh ut uv ln rw_) ++ (wX3 cI m0 m1 m2 m3 m4 m5 mlim mkpt msyn mcn mk ms mc me ch)) → va_S (fun q : Nat => s.heap.size ≤ q) s.heap H locs → lv_has ls 4 [(3, .int (nI (i + 5))), (0, .ref b), (1, .ref h0), (2, .ref m0)] → W p l e room_1 s m #[Value.ref b] below meth c H locs 23 3893 (lw_Z below #[Value.ref b] s) (F0 m 28 ls [])) : ∀ (lim kpt syn : Int32) (tk ts tl th tt tv uk us ul uh ut uv : AR) (ln : Int32) (rw_ : AR) (mlim mkpt msyn mcn : Int32) (mk ms mc me ch : AR) (H : Heap) (locs : List Loc) (ls : Array Slot), Inv lim kpt syn tk ts tl th tt tv uk us ul uh ut uv ln rw_ mlim mkpt msyn mcn mk ms mc me ch → va_P (dC, dI) vwCl ((wX2 cI h0 ht0 ht1 ht2 ht3 ht4 ht5 ht6 hu0 hu1 hu2 hu3 hu4 hu5 hu6 hg0 hg1 lim kpt syn tk ts tl th tt tv uk us ul uh ut uv ln rw_) ++ (wX3 cI m0 m1 m2 m3 m4 m5 mlim mkpt msyn mcn mk ms mc me ch)) H → va_D (fun q : Nat => s.heap.size ≤ q) ((wX2 cI h0 ht0 ht1 ht2 ht3 ht4 ht5 ht6 hu0 hu1 hu2 hu3 hu4 hu5 hu6 hg0 hg1 lim kpt syn tk ts tl th tt tv uk us ul uh ut uv ln rw_) ++ (wX3 cI m0 m1 m2 m3 m4 m5 mlim mkpt msyn mcn mk ms mc me ch)) → va_S (fun q : Nat => s.heap.size ≤ q) s.heap H locs → lv_has ls 4 [(3, .int (nI (i))), (0, .ref b), (1, .ref h0), (2, .ref m0)] → W p l e room_1 s m #[Value.ref b] below meth c H locs 23 3893 (lw_Z below #[Value.ref b] s) (F0 m 296 ls []) := by
  obtain ⟨hx, hb, hr, hml, hown, hts, hX, hbl, hlocks, hgv⟩ := id C0
  have hown : s.vm.findClass RL = some m.cls := hown
  have hbA : ¬ (fun q : Nat => s.heap.size ≤ q) b := Nat.not_le.mpr hbl
  intro lim kpt syn tk ts tl th tt tv uk us ul uh ut uv ln rw_ mlim mkpt msyn mcn mk ms mc me ch H locs ls I hP hD hS hl
  refine lv_aload_n hx hb dL_law_296 rfl (lv_at hl 2 rfl) ?_
  refine lv_aload_n hx hb dL_law_297 rfl (lv_at hl 1 rfl) ?_
  refine lv_iload_n hx hb dL_law_298 rfl (lv_at hl 0 rfl) ?_
  refine lv_iconst (v := 1) hx hb dL_law_299 (by decide) ?_
  refine lv_iadd hx hb dL_law_300 ?_
  refine rw_nm (y := nI (i + 1)) (p1 i).symm ?_
  refine va_sld hx hb hX hbl hbA hS (vp_in_nI (n := i + 1) (by omega) (by omega)) dL_law_301 ?_
  refine rw_nm (y := xs (i + 1)) (by rw [nI_clamp (by omega)]) ?_
  refine lv_aload_n hx hb dL_law_302 rfl (lv_at hl 1 rfl) ?_
  refine lv_iload_n hx hb dL_law_303 rfl (lv_at hl 0 rfl) ?_
  refine lv_iconst (v := 2) hx hb dL_law_304 (by decide) ?_
  refine lv_iadd hx hb dL_law_305 ?_
  refine rw_nm (y := nI (i + 2)) (p2 i).symm ?_
  refine va_sld hx hb hX hbl hbA hS (vp_in_nI (n := i + 2) (by omega) (by omega)) dL_law_306 ?_
  refine rw_nm (y := xs (i + 2)) (by rw [nI_clamp (by omega)]) ?_
  refine lv_aload_n hx hb dL_law_307 rfl (lv_at hl 1 rfl) ?_
  refine lv_iload_n hx hb dL_law_308 rfl (lv_at hl 0 rfl) ?_
  refine lv_iconst (v := 3) hx hb dL_law_309 (by decide) ?_
  refine lv_iadd hx hb dL_law_310 ?_
  refine rw_nm (y := nI (i + 3)) (p3 i).symm ?_
  refine va_sld hx hb hX hbl hbA hS (vp_in_nI (n := i + 3) (by omega) (by omega)) dL_law_311 ?_
  refine rw_nm (y := xs (i + 3)) (by rw [nI_clamp (by omega)]) ?_
  obtain ⟨r, k1, s1, tk1, ts1, tl1, th1, tt1, tv1, uk1, us1, ul1, uh1, ut1, uv1, ln1, rw1, k2, s2, c2, mk1, ms1, mc1, me1, ch1, o1, o2, I1⟩ := call_write I (xs (i + 1)) (xs (i + 2)) (xs (i + 3))
  refine callLi (wa' := (wX2 cI h0 ht0 ht1 ht2 ht3 ht4 ht5 ht6 hu0 hu1 hu2 hu3 hu4 hu5 hu6 hg0 hg1 lim k1 s1 tk1 ts1 tl1 th1 tt1 tv1 uk1 us1 ul1 uh1 ut1 uv1 ln1 rw1)) (va_runV (As := [.int (xs (i + 1)), .int (xs (i + 2)), .int (xs (i + 3))]) (rest := []) ⟨hx, hb, hml, hown, hts⟩ (cX2_write_met l dC dI cI h0 ht0 ht1 ht2 ht3 ht4 ht5 ht6 hu0 hu1 hu2 hu3 hu4 hu5 hu6 hg0 hg1 lim kpt syn tk ts tl th tt tv uk us ul uh ut uv ln rw_ (xs (i + 1)) (xs (i + 2)) (xs (i + 3)) r k1 s1 tk1 ts1 tl1 th1 tt1 tv1 uk1 us1 ul1 uh1 ut1 uv1 ln1 rw1 o1) (cwV 3 hts (gInL (memV q_177 q_178 q_179 q_1 q_180)) rfl rfl rfl (by decide +kernel) ⟨(Nat.le_of_ble_eq_true rfl), (Nat.le_of_ble_eq_true rfl)⟩) (preWV (ci := 2) (q0 := 0) hK (va_Pl hP) (va_Dl hD) rfl rfl) rfl rfl hl.1 rfl (lv_room (Nat.le_of_ble_eq_true rfl)) dL_law_312 ⟨(Nat.le_of_ble_eq_true rfl), (Nat.le_of_ble_eq_true rfl)⟩) hS hP hD rfl rfl (fun H locs hP hD hS => ?_)
  refine lv_aload_n hx hb dL_law_315 rfl (lv_at hl 3 rfl) ?_
  refine lv_aload_n hx hb dL_law_316 rfl (lv_at hl 1 rfl) ?_
  refine lv_iload_n hx hb dL_law_317 rfl (lv_at hl 0 rfl) ?_
  refine lv_iconst (v := 1) hx hb dL_law_318 (by decide) ?_
  refine lv_iadd hx hb dL_law_319 ?_
  refine rw_nm (y := nI (i + 1)) (p1 i).symm ?_
  refine va_sld hx hb hX hbl hbA hS (vp_in_nI (n := i + 1) (by omega) (by omega)) dL_law_320 ?_
  refine rw_nm (y := xs (i + 1)) (by rw [nI_clamp (by omega)]) ?_
  refine lv_aload_n hx hb dL_law_321 rfl (lv_at hl 1 rfl) ?_
  refine lv_iload_n hx hb dL_law_322 rfl (lv_at hl 0 rfl) ?_
  refine lv_iconst (v := 2) hx hb dL_law_323 (by decide) ?_
  refine lv_iadd hx hb dL_law_324 ?_
  refine rw_nm (y := nI (i + 2)) (p2 i).symm ?_
  refine va_sld hx hb hX hbl hbA hS (vp_in_nI (n := i + 2) (by omega) (by omega)) dL_law_325 ?_
  refine rw_nm (y := xs (i + 2)) (by rw [nI_clamp (by omega)]) ?_
  refine lv_aload_n hx hb dL_law_326 rfl (lv_at hl 1 rfl) ?_
  refine lv_iload_n hx hb dL_law_327 rfl (lv_at hl 0 rfl) ?_
  refine lv_iconst (v := 3) hx hb dL_law_328 (by decide) ?_
  refine lv_iadd hx hb dL_law_329 ?_
  refine rw_nm (y := nI (i + 3)) (p3 i).symm ?_
  refine va_sld hx hb hX hbl hbA hS (vp_in_nI (n := i + 3) (by omega) (by omega)) dL_law_330 ?_
  refine rw_nm (y := xs (i + 3)) (by rw [nI_clamp (by omega)]) ?_
  refine callGi (wb' := (wX3 cI m0 m1 m2 m3 m4 m5 mlim k2 s2 c2 mk1 ms1 mc1 me1 ch1)) (va_runV (As := [.int (xs (i + 1)), .int (xs (i + 2)), .int (xs (i + 3))]) (rest := [.int r]) ⟨hx, hb, hml, hown, hts⟩ (cX3_write_met l dC dI cI m0 m1 m2 m3 m4 m5 mlim mkpt msyn mcn mk ms mc me ch (xs (i + 1)) (xs (i + 2)) (xs (i + 3)) r k2 s2 c2 mk1 ms1 mc1 me1 ch1 o2) (cwV 3 hts (gInL (memV q_310 q_311 q_312 q_5 q_313)) rfl rfl rfl (by decide +kernel) ⟨(Nat.le_of_ble_eq_true rfl), (Nat.le_of_ble_eq_true rfl)⟩) (preWV (ci := 3) (q0 := 0) hK (va_Pr hP) (va_Dr hD) rfl rfl) rfl rfl hl.1 rfl (lv_room (Nat.le_of_ble_eq_true rfl)) dL_law_331 ⟨(Nat.le_of_ble_eq_true rfl), (Nat.le_of_ble_eq_true rfl)⟩) hS hP hD rfl rfl (fun H locs hP hD hS => ?_)
  refine lv_icmp_eq (tgt := 564) hx hb dL_law_334 (by decide) (fun _ => ?_) (fun q => absurd rfl q)
  refine lv_iinc (v := nI (i + 5)) (lv' := [(3, .int (nI (i + 5))), (0, .ref b), (1, .ref h0), (2, .ref m0)]) hx hb dL_law_564 hl (k := 0) rfl (nI_add i 5) (by decide) rfl (fun ls hl => ?_)
  refine lv_goto (tgt := 28) hx hb dL_law_567 (by decide) ?_
  exact cont lim k1 s1 tk1 ts1 tl1 th1 tt1 tv1 uk1 us1 ul1 uh1 ut1 uv1 ln1 rw1 mlim k2 s2 c2 mk1 ms1 mc1 me1 ch1 H locs ls I1 hP hD hS hl
set_option maxHeartbeats 4000000 in
set_option maxRecDepth 100000 in
theorem law_cut {p : Program} {l : Launch} {e : Env} {s : State} {m : MethodId} {below : List Frame} {meth : Method} {c : Code} {dC : Nat → ClassId} {dI : Nat → Nat → Nat} {cI : ClassId} {b L : Nat} {xs : Nat → Int32} (hL : L ≤ 2561) (C0 : lw_At p s m meth c b L xs) (hK : va_K (dC, dI) vwCl [(cI, .int)] s) (h0 ht0 ht1 ht2 ht3 ht4 ht5 ht6 hu0 hu1 hu2 hu3 hu4 hu5 hu6 hg0 hg1 m0 m1 m2 m3 m4 m5 : Nat) {i : Nat} (hi : i + 5 ≤ L) (cont : ∀ (lim kpt syn : Int32) (tk ts tl th tt tv uk us ul uh ut uv : AR) (ln : Int32) (rw_ : AR) (mlim mkpt msyn mcn : Int32) (mk ms mc me ch : AR) (H : Heap) (locs : List Loc) (ls : Array Slot), Inv lim kpt syn tk ts tl th tt tv uk us ul uh ut uv ln rw_ mlim mkpt msyn mcn mk ms mc me ch → va_P (dC, dI) vwCl ((wX2 cI h0 ht0 ht1 ht2 ht3 ht4 ht5 ht6 hu0 hu1 hu2 hu3 hu4 hu5 hu6 hg0 hg1 lim kpt syn tk ts tl th tt tv uk us ul uh ut uv ln rw_) ++ (wX3 cI m0 m1 m2 m3 m4 m5 mlim mkpt msyn mcn mk ms mc me ch)) H → va_D (fun q : Nat => s.heap.size ≤ q) ((wX2 cI h0 ht0 ht1 ht2 ht3 ht4 ht5 ht6 hu0 hu1 hu2 hu3 hu4 hu5 hu6 hg0 hg1 lim kpt syn tk ts tl th tt tv uk us ul uh ut uv ln rw_) ++ (wX3 cI m0 m1 m2 m3 m4 m5 mlim mkpt msyn mcn mk ms mc me ch)) → va_S (fun q : Nat => s.heap.size ≤ q) s.heap H locs → lv_has ls 4 [(3, .int (nI (i + 5))), (0, .ref b), (1, .ref h0), (2, .ref m0)] → W p l e room_1 s m #[Value.ref b] below meth c H locs 23 3893 (lw_Z below #[Value.ref b] s) (F0 m 28 ls [])) : ∀ (lim kpt syn : Int32) (tk ts tl th tt tv uk us ul uh ut uv : AR) (ln : Int32) (rw_ : AR) (mlim mkpt msyn mcn : Int32) (mk ms mc me ch : AR) (H : Heap) (locs : List Loc) (ls : Array Slot), Inv lim kpt syn tk ts tl th tt tv uk us ul uh ut uv ln rw_ mlim mkpt msyn mcn mk ms mc me ch → va_P (dC, dI) vwCl ((wX2 cI h0 ht0 ht1 ht2 ht3 ht4 ht5 ht6 hu0 hu1 hu2 hu3 hu4 hu5 hu6 hg0 hg1 lim kpt syn tk ts tl th tt tv uk us ul uh ut uv ln rw_) ++ (wX3 cI m0 m1 m2 m3 m4 m5 mlim mkpt msyn mcn mk ms mc me ch)) H → va_D (fun q : Nat => s.heap.size ≤ q) ((wX2 cI h0 ht0 ht1 ht2 ht3 ht4 ht5 ht6 hu0 hu1 hu2 hu3 hu4 hu5 hu6 hg0 hg1 lim kpt syn tk ts tl th tt tv uk us ul uh ut uv ln rw_) ++ (wX3 cI m0 m1 m2 m3 m4 m5 mlim mkpt msyn mcn mk ms mc me ch)) → va_S (fun q : Nat => s.heap.size ≤ q) s.heap H locs → lv_has ls 4 [(3, .int (nI (i))), (0, .ref b), (1, .ref h0), (2, .ref m0)] → W p l e room_1 s m #[Value.ref b] below meth c H locs 23 3893 (lw_Z below #[Value.ref b] s) (F0 m 339 ls []) := by
  obtain ⟨hx, hb, hr, hml, hown, hts, hX, hbl, hlocks, hgv⟩ := id C0
  have hown : s.vm.findClass RL = some m.cls := hown
  have hbA : ¬ (fun q : Nat => s.heap.size ≤ q) b := Nat.not_le.mpr hbl
  intro lim kpt syn tk ts tl th tt tv uk us ul uh ut uv ln rw_ mlim mkpt msyn mcn mk ms mc me ch H locs ls I hP hD hS hl
  refine lv_aload_n hx hb dL_law_339 rfl (lv_at hl 2 rfl) ?_
  refine lv_aload_n hx hb dL_law_340 rfl (lv_at hl 1 rfl) ?_
  refine lv_iload_n hx hb dL_law_341 rfl (lv_at hl 0 rfl) ?_
  refine lv_iconst (v := 1) hx hb dL_law_342 (by decide) ?_
  refine lv_iadd hx hb dL_law_343 ?_
  refine rw_nm (y := nI (i + 1)) (p1 i).symm ?_
  refine va_sld hx hb hX hbl hbA hS (vp_in_nI (n := i + 1) (by omega) (by omega)) dL_law_344 ?_
  refine rw_nm (y := xs (i + 1)) (by rw [nI_clamp (by omega)]) ?_
  refine lv_aload_n hx hb dL_law_345 rfl (lv_at hl 1 rfl) ?_
  refine lv_iload_n hx hb dL_law_346 rfl (lv_at hl 0 rfl) ?_
  refine lv_iconst (v := 2) hx hb dL_law_347 (by decide) ?_
  refine lv_iadd hx hb dL_law_348 ?_
  refine rw_nm (y := nI (i + 2)) (p2 i).symm ?_
  refine va_sld hx hb hX hbl hbA hS (vp_in_nI (n := i + 2) (by omega) (by omega)) dL_law_349 ?_
  refine rw_nm (y := xs (i + 2)) (by rw [nI_clamp (by omega)]) ?_
  obtain ⟨r, k1, s1, tk1, ts1, tl1, th1, tt1, tv1, uk1, us1, ul1, uh1, ut1, uv1, ln1, rw1, k2, s2, c2, mk1, ms1, mc1, me1, ch1, o1, o2, I1⟩ := call_cut I (xs (i + 1)) (xs (i + 2))
  refine callLi (wa' := (wX2 cI h0 ht0 ht1 ht2 ht3 ht4 ht5 ht6 hu0 hu1 hu2 hu3 hu4 hu5 hu6 hg0 hg1 lim k1 s1 tk1 ts1 tl1 th1 tt1 tv1 uk1 us1 ul1 uh1 ut1 uv1 ln1 rw1)) (va_runV (As := [.int (xs (i + 1)), .int (xs (i + 2))]) (rest := []) ⟨hx, hb, hml, hown, hts⟩ (cX2_cut_met l dC dI cI h0 ht0 ht1 ht2 ht3 ht4 ht5 ht6 hu0 hu1 hu2 hu3 hu4 hu5 hu6 hg0 hg1 lim kpt syn tk ts tl th tt tv uk us ul uh ut uv ln rw_ (xs (i + 1)) (xs (i + 2)) r k1 s1 tk1 ts1 tl1 th1 tt1 tv1 uk1 us1 ul1 uh1 ut1 uv1 ln1 rw1 o1) (cwV 2 hts (gInL (memV q_181 q_182 q_183 q_1 q_184)) rfl rfl rfl (by decide +kernel) ⟨(Nat.le_of_ble_eq_true rfl), (Nat.le_of_ble_eq_true rfl)⟩) (preWV (ci := 2) (q0 := 0) hK (va_Pl hP) (va_Dl hD) rfl rfl) rfl rfl hl.1 rfl (lv_room (Nat.le_of_ble_eq_true rfl)) dL_law_350 ⟨(Nat.le_of_ble_eq_true rfl), (Nat.le_of_ble_eq_true rfl)⟩) hS hP hD rfl rfl (fun H locs hP hD hS => ?_)
  refine lv_aload_n hx hb dL_law_353 rfl (lv_at hl 3 rfl) ?_
  refine lv_aload_n hx hb dL_law_354 rfl (lv_at hl 1 rfl) ?_
  refine lv_iload_n hx hb dL_law_355 rfl (lv_at hl 0 rfl) ?_
  refine lv_iconst (v := 1) hx hb dL_law_356 (by decide) ?_
  refine lv_iadd hx hb dL_law_357 ?_
  refine rw_nm (y := nI (i + 1)) (p1 i).symm ?_
  refine va_sld hx hb hX hbl hbA hS (vp_in_nI (n := i + 1) (by omega) (by omega)) dL_law_358 ?_
  refine rw_nm (y := xs (i + 1)) (by rw [nI_clamp (by omega)]) ?_
  refine lv_aload_n hx hb dL_law_359 rfl (lv_at hl 1 rfl) ?_
  refine lv_iload_n hx hb dL_law_360 rfl (lv_at hl 0 rfl) ?_
  refine lv_iconst (v := 2) hx hb dL_law_361 (by decide) ?_
  refine lv_iadd hx hb dL_law_362 ?_
  refine rw_nm (y := nI (i + 2)) (p2 i).symm ?_
  refine va_sld hx hb hX hbl hbA hS (vp_in_nI (n := i + 2) (by omega) (by omega)) dL_law_363 ?_
  refine rw_nm (y := xs (i + 2)) (by rw [nI_clamp (by omega)]) ?_
  refine callGi (wb' := (wX3 cI m0 m1 m2 m3 m4 m5 mlim k2 s2 c2 mk1 ms1 mc1 me1 ch1)) (va_runV (As := [.int (xs (i + 1)), .int (xs (i + 2))]) (rest := [.int r]) ⟨hx, hb, hml, hown, hts⟩ (cX3_cut_met l dC dI cI m0 m1 m2 m3 m4 m5 mlim mkpt msyn mcn mk ms mc me ch (xs (i + 1)) (xs (i + 2)) r k2 s2 c2 mk1 ms1 mc1 me1 ch1 o2) (cwV 2 hts (gInL (memV q_314 q_315 q_316 q_5 q_317)) rfl rfl rfl (by decide +kernel) ⟨(Nat.le_of_ble_eq_true rfl), (Nat.le_of_ble_eq_true rfl)⟩) (preWV (ci := 3) (q0 := 0) hK (va_Pr hP) (va_Dr hD) rfl rfl) rfl rfl hl.1 rfl (lv_room (Nat.le_of_ble_eq_true rfl)) dL_law_364 ⟨(Nat.le_of_ble_eq_true rfl), (Nat.le_of_ble_eq_true rfl)⟩) hS hP hD rfl rfl (fun H locs hP hD hS => ?_)
  refine lv_icmp_eq (tgt := 564) hx hb dL_law_367 (by decide) (fun _ => ?_) (fun q => absurd rfl q)
  refine lv_iinc (v := nI (i + 5)) (lv' := [(3, .int (nI (i + 5))), (0, .ref b), (1, .ref h0), (2, .ref m0)]) hx hb dL_law_564 hl (k := 0) rfl (nI_add i 5) (by decide) rfl (fun ls hl => ?_)
  refine lv_goto (tgt := 28) hx hb dL_law_567 (by decide) ?_
  exact cont lim k1 s1 tk1 ts1 tl1 th1 tt1 tv1 uk1 us1 ul1 uh1 ut1 uv1 ln1 rw1 mlim k2 s2 c2 mk1 ms1 mc1 me1 ch1 H locs ls I1 hP hD hS hl
set_option maxHeartbeats 4000000 in
set_option maxRecDepth 100000 in
theorem law_sync {p : Program} {l : Launch} {e : Env} {s : State} {m : MethodId} {below : List Frame} {meth : Method} {c : Code} {dC : Nat → ClassId} {dI : Nat → Nat → Nat} {cI : ClassId} {b L : Nat} {xs : Nat → Int32} (hL : L ≤ 2561) (C0 : lw_At p s m meth c b L xs) (hK : va_K (dC, dI) vwCl [(cI, .int)] s) (h0 ht0 ht1 ht2 ht3 ht4 ht5 ht6 hu0 hu1 hu2 hu3 hu4 hu5 hu6 hg0 hg1 m0 m1 m2 m3 m4 m5 : Nat) {i : Nat} (hi : i + 5 ≤ L) (cont : ∀ (lim kpt syn : Int32) (tk ts tl th tt tv uk us ul uh ut uv : AR) (ln : Int32) (rw_ : AR) (mlim mkpt msyn mcn : Int32) (mk ms mc me ch : AR) (H : Heap) (locs : List Loc) (ls : Array Slot), Inv lim kpt syn tk ts tl th tt tv uk us ul uh ut uv ln rw_ mlim mkpt msyn mcn mk ms mc me ch → va_P (dC, dI) vwCl ((wX2 cI h0 ht0 ht1 ht2 ht3 ht4 ht5 ht6 hu0 hu1 hu2 hu3 hu4 hu5 hu6 hg0 hg1 lim kpt syn tk ts tl th tt tv uk us ul uh ut uv ln rw_) ++ (wX3 cI m0 m1 m2 m3 m4 m5 mlim mkpt msyn mcn mk ms mc me ch)) H → va_D (fun q : Nat => s.heap.size ≤ q) ((wX2 cI h0 ht0 ht1 ht2 ht3 ht4 ht5 ht6 hu0 hu1 hu2 hu3 hu4 hu5 hu6 hg0 hg1 lim kpt syn tk ts tl th tt tv uk us ul uh ut uv ln rw_) ++ (wX3 cI m0 m1 m2 m3 m4 m5 mlim mkpt msyn mcn mk ms mc me ch)) → va_S (fun q : Nat => s.heap.size ≤ q) s.heap H locs → lv_has ls 4 [(3, .int (nI (i + 5))), (0, .ref b), (1, .ref h0), (2, .ref m0)] → W p l e room_1 s m #[Value.ref b] below meth c H locs 23 3893 (lw_Z below #[Value.ref b] s) (F0 m 28 ls [])) : ∀ (lim kpt syn : Int32) (tk ts tl th tt tv uk us ul uh ut uv : AR) (ln : Int32) (rw_ : AR) (mlim mkpt msyn mcn : Int32) (mk ms mc me ch : AR) (H : Heap) (locs : List Loc) (ls : Array Slot), Inv lim kpt syn tk ts tl th tt tv uk us ul uh ut uv ln rw_ mlim mkpt msyn mcn mk ms mc me ch → va_P (dC, dI) vwCl ((wX2 cI h0 ht0 ht1 ht2 ht3 ht4 ht5 ht6 hu0 hu1 hu2 hu3 hu4 hu5 hu6 hg0 hg1 lim kpt syn tk ts tl th tt tv uk us ul uh ut uv ln rw_) ++ (wX3 cI m0 m1 m2 m3 m4 m5 mlim mkpt msyn mcn mk ms mc me ch)) H → va_D (fun q : Nat => s.heap.size ≤ q) ((wX2 cI h0 ht0 ht1 ht2 ht3 ht4 ht5 ht6 hu0 hu1 hu2 hu3 hu4 hu5 hu6 hg0 hg1 lim kpt syn tk ts tl th tt tv uk us ul uh ut uv ln rw_) ++ (wX3 cI m0 m1 m2 m3 m4 m5 mlim mkpt msyn mcn mk ms mc me ch)) → va_S (fun q : Nat => s.heap.size ≤ q) s.heap H locs → lv_has ls 4 [(3, .int (nI (i))), (0, .ref b), (1, .ref h0), (2, .ref m0)] → W p l e room_1 s m #[Value.ref b] below meth c H locs 23 3893 (lw_Z below #[Value.ref b] s) (F0 m 372 ls []) := by
  obtain ⟨hx, hb, hr, hml, hown, hts, hX, hbl, hlocks, hgv⟩ := id C0
  have hown : s.vm.findClass RL = some m.cls := hown
  have hbA : ¬ (fun q : Nat => s.heap.size ≤ q) b := Nat.not_le.mpr hbl
  intro lim kpt syn tk ts tl th tt tv uk us ul uh ut uv ln rw_ mlim mkpt msyn mcn mk ms mc me ch H locs ls I hP hD hS hl
  refine lv_aload_n hx hb dL_law_372 rfl (lv_at hl 2 rfl) ?_
  obtain ⟨r, k1, s1, uk1, us1, ul1, uh1, ut1, uv1, ln1, k2, s2, c2, mk1, ms1, mc1, me1, o1, o2, I1⟩ := call_sync I
  refine callLi (wa' := (wX2 cI h0 ht0 ht1 ht2 ht3 ht4 ht5 ht6 hu0 hu1 hu2 hu3 hu4 hu5 hu6 hg0 hg1 lim k1 s1 tk ts tl th tt tv uk1 us1 ul1 uh1 ut1 uv1 ln1 rw_)) (va_runV (As := []) (rest := []) ⟨hx, hb, hml, hown, hts⟩ (cX2_sync_met l dC dI cI h0 ht0 ht1 ht2 ht3 ht4 ht5 ht6 hu0 hu1 hu2 hu3 hu4 hu5 hu6 hg0 hg1 lim kpt syn tk ts tl th tt tv uk us ul uh ut uv ln rw_  r k1 s1 uk1 us1 ul1 uh1 ut1 uv1 ln1 o1) (cwV 0 hts (gInL (memV q_185 q_186 q_187 q_1 q_188)) rfl rfl rfl (by decide +kernel) ⟨(Nat.le_of_ble_eq_true rfl), (Nat.le_of_ble_eq_true rfl)⟩) (preWV (ci := 2) (q0 := 0) hK (va_Pl hP) (va_Dl hD) rfl rfl) rfl rfl hl.1 rfl (lv_room (Nat.le_of_ble_eq_true rfl)) dL_law_373 ⟨(Nat.le_of_ble_eq_true rfl), (Nat.le_of_ble_eq_true rfl)⟩) hS hP hD rfl rfl (fun H locs hP hD hS => ?_)
  refine lv_aload_n hx hb dL_law_376 rfl (lv_at hl 3 rfl) ?_
  refine callGi (wb' := (wX3 cI m0 m1 m2 m3 m4 m5 mlim k2 s2 c2 mk1 ms1 mc1 me1 ch)) (va_runV (As := []) (rest := [.int r]) ⟨hx, hb, hml, hown, hts⟩ (cX3_sync_met l dC dI cI m0 m1 m2 m3 m4 m5 mlim mkpt msyn mcn mk ms mc me ch  r k2 s2 c2 mk1 ms1 mc1 me1 o2) (cwV 0 hts (gInL (memV q_318 q_283 q_284 q_5 q_285)) rfl rfl rfl (by decide +kernel) ⟨(Nat.le_of_ble_eq_true rfl), (Nat.le_of_ble_eq_true rfl)⟩) (preWV (ci := 3) (q0 := 0) hK (va_Pr hP) (va_Dr hD) rfl rfl) rfl rfl hl.1 rfl (lv_room (Nat.le_of_ble_eq_true rfl)) dL_law_377 ⟨(Nat.le_of_ble_eq_true rfl), (Nat.le_of_ble_eq_true rfl)⟩) hS hP hD rfl rfl (fun H locs hP hD hS => ?_)
  refine lv_icmp_eq (tgt := 564) hx hb dL_law_380 (by decide) (fun _ => ?_) (fun q => absurd rfl q)
  refine lv_iinc (v := nI (i + 5)) (lv' := [(3, .int (nI (i + 5))), (0, .ref b), (1, .ref h0), (2, .ref m0)]) hx hb dL_law_564 hl (k := 0) rfl (nI_add i 5) (by decide) rfl (fun ls hl => ?_)
  refine lv_goto (tgt := 28) hx hb dL_law_567 (by decide) ?_
  exact cont lim k1 s1 tk ts tl th tt tv uk1 us1 ul1 uh1 ut1 uv1 ln1 rw_ mlim k2 s2 c2 mk1 ms1 mc1 me1 ch H locs ls I1 hP hD hS hl
set_option maxHeartbeats 4000000 in
set_option maxRecDepth 100000 in
theorem law_crash {p : Program} {l : Launch} {e : Env} {s : State} {m : MethodId} {below : List Frame} {meth : Method} {c : Code} {dC : Nat → ClassId} {dI : Nat → Nat → Nat} {cI : ClassId} {b L : Nat} {xs : Nat → Int32} (hL : L ≤ 2561) (C0 : lw_At p s m meth c b L xs) (hK : va_K (dC, dI) vwCl [(cI, .int)] s) (h0 ht0 ht1 ht2 ht3 ht4 ht5 ht6 hu0 hu1 hu2 hu3 hu4 hu5 hu6 hg0 hg1 m0 m1 m2 m3 m4 m5 : Nat) {i : Nat} (hi : i + 5 ≤ L) (cont : ∀ (lim kpt syn : Int32) (tk ts tl th tt tv uk us ul uh ut uv : AR) (ln : Int32) (rw_ : AR) (mlim mkpt msyn mcn : Int32) (mk ms mc me ch : AR) (H : Heap) (locs : List Loc) (ls : Array Slot), Inv lim kpt syn tk ts tl th tt tv uk us ul uh ut uv ln rw_ mlim mkpt msyn mcn mk ms mc me ch → va_P (dC, dI) vwCl ((wX2 cI h0 ht0 ht1 ht2 ht3 ht4 ht5 ht6 hu0 hu1 hu2 hu3 hu4 hu5 hu6 hg0 hg1 lim kpt syn tk ts tl th tt tv uk us ul uh ut uv ln rw_) ++ (wX3 cI m0 m1 m2 m3 m4 m5 mlim mkpt msyn mcn mk ms mc me ch)) H → va_D (fun q : Nat => s.heap.size ≤ q) ((wX2 cI h0 ht0 ht1 ht2 ht3 ht4 ht5 ht6 hu0 hu1 hu2 hu3 hu4 hu5 hu6 hg0 hg1 lim kpt syn tk ts tl th tt tv uk us ul uh ut uv ln rw_) ++ (wX3 cI m0 m1 m2 m3 m4 m5 mlim mkpt msyn mcn mk ms mc me ch)) → va_S (fun q : Nat => s.heap.size ≤ q) s.heap H locs → lv_has ls 4 [(3, .int (nI (i + 5))), (0, .ref b), (1, .ref h0), (2, .ref m0)] → W p l e room_1 s m #[Value.ref b] below meth c H locs 23 3893 (lw_Z below #[Value.ref b] s) (F0 m 28 ls [])) : ∀ (lim kpt syn : Int32) (tk ts tl th tt tv uk us ul uh ut uv : AR) (ln : Int32) (rw_ : AR) (mlim mkpt msyn mcn : Int32) (mk ms mc me ch : AR) (H : Heap) (locs : List Loc) (ls : Array Slot), Inv lim kpt syn tk ts tl th tt tv uk us ul uh ut uv ln rw_ mlim mkpt msyn mcn mk ms mc me ch → va_P (dC, dI) vwCl ((wX2 cI h0 ht0 ht1 ht2 ht3 ht4 ht5 ht6 hu0 hu1 hu2 hu3 hu4 hu5 hu6 hg0 hg1 lim kpt syn tk ts tl th tt tv uk us ul uh ut uv ln rw_) ++ (wX3 cI m0 m1 m2 m3 m4 m5 mlim mkpt msyn mcn mk ms mc me ch)) H → va_D (fun q : Nat => s.heap.size ≤ q) ((wX2 cI h0 ht0 ht1 ht2 ht3 ht4 ht5 ht6 hu0 hu1 hu2 hu3 hu4 hu5 hu6 hg0 hg1 lim kpt syn tk ts tl th tt tv uk us ul uh ut uv ln rw_) ++ (wX3 cI m0 m1 m2 m3 m4 m5 mlim mkpt msyn mcn mk ms mc me ch)) → va_S (fun q : Nat => s.heap.size ≤ q) s.heap H locs → lv_has ls 4 [(3, .int (nI (i))), (0, .ref b), (1, .ref h0), (2, .ref m0)] → W p l e room_1 s m #[Value.ref b] below meth c H locs 23 3893 (lw_Z below #[Value.ref b] s) (F0 m 385 ls []) := by
  obtain ⟨hx, hb, hr, hml, hown, hts, hX, hbl, hlocks, hgv⟩ := id C0
  have hown : s.vm.findClass RL = some m.cls := hown
  have hbA : ¬ (fun q : Nat => s.heap.size ≤ q) b := Nat.not_le.mpr hbl
  intro lim kpt syn tk ts tl th tt tv uk us ul uh ut uv ln rw_ mlim mkpt msyn mcn mk ms mc me ch H locs ls I hP hD hS hl
  refine lv_aload_n hx hb dL_law_385 rfl (lv_at hl 2 rfl) ?_
  refine lv_aload_n hx hb dL_law_386 rfl (lv_at hl 1 rfl) ?_
  refine lv_iload_n hx hb dL_law_387 rfl (lv_at hl 0 rfl) ?_
  refine lv_iconst (v := 1) hx hb dL_law_388 (by decide) ?_
  refine lv_iadd hx hb dL_law_389 ?_
  refine rw_nm (y := nI (i + 1)) (p1 i).symm ?_
  refine va_sld hx hb hX hbl hbA hS (vp_in_nI (n := i + 1) (by omega) (by omega)) dL_law_390 ?_
  refine rw_nm (y := xs (i + 1)) (by rw [nI_clamp (by omega)]) ?_
  obtain ⟨r, k1, tk1, ts1, tl1, th1, tt1, tv1, uk1, us1, ul1, uh1, ut1, uv1, ln1, k2, c2, mk1, ms1, mc1, me1, o1, o2, I1⟩ := call_crash I (xs (i + 1))
  refine callLi (wa' := (wX2 cI h0 ht0 ht1 ht2 ht3 ht4 ht5 ht6 hu0 hu1 hu2 hu3 hu4 hu5 hu6 hg0 hg1 lim k1 syn tk1 ts1 tl1 th1 tt1 tv1 uk1 us1 ul1 uh1 ut1 uv1 ln1 rw_)) (va_runV (As := [.int (xs (i + 1))]) (rest := []) ⟨hx, hb, hml, hown, hts⟩ (cX2_crash_met l dC dI cI h0 ht0 ht1 ht2 ht3 ht4 ht5 ht6 hu0 hu1 hu2 hu3 hu4 hu5 hu6 hg0 hg1 lim kpt syn tk ts tl th tt tv uk us ul uh ut uv ln rw_ (xs (i + 1)) r k1 tk1 ts1 tl1 th1 tt1 tv1 uk1 us1 ul1 uh1 ut1 uv1 ln1 o1) (cwV 1 hts (gInL (memV q_189 q_190 q_191 q_1 q_192)) rfl rfl rfl (by decide +kernel) ⟨(Nat.le_of_ble_eq_true rfl), (Nat.le_of_ble_eq_true rfl)⟩) (preWV (ci := 2) (q0 := 0) hK (va_Pl hP) (va_Dl hD) rfl rfl) rfl rfl hl.1 rfl (lv_room (Nat.le_of_ble_eq_true rfl)) dL_law_391 ⟨(Nat.le_of_ble_eq_true rfl), (Nat.le_of_ble_eq_true rfl)⟩) hS hP hD rfl rfl (fun H locs hP hD hS => ?_)
  refine lv_aload_n hx hb dL_law_394 rfl (lv_at hl 3 rfl) ?_
  refine lv_aload_n hx hb dL_law_395 rfl (lv_at hl 1 rfl) ?_
  refine lv_iload_n hx hb dL_law_396 rfl (lv_at hl 0 rfl) ?_
  refine lv_iconst (v := 1) hx hb dL_law_397 (by decide) ?_
  refine lv_iadd hx hb dL_law_398 ?_
  refine rw_nm (y := nI (i + 1)) (p1 i).symm ?_
  refine va_sld hx hb hX hbl hbA hS (vp_in_nI (n := i + 1) (by omega) (by omega)) dL_law_399 ?_
  refine rw_nm (y := xs (i + 1)) (by rw [nI_clamp (by omega)]) ?_
  refine callGi (wb' := (wX3 cI m0 m1 m2 m3 m4 m5 mlim k2 msyn c2 mk1 ms1 mc1 me1 ch)) (va_runV (As := [.int (xs (i + 1))]) (rest := [.int r]) ⟨hx, hb, hml, hown, hts⟩ (cX3_crash_met l dC dI cI m0 m1 m2 m3 m4 m5 mlim mkpt msyn mcn mk ms mc me ch (xs (i + 1)) r k2 c2 mk1 ms1 mc1 me1 o2) (cwV 1 hts (gInL (memV q_319 q_320 q_321 q_5 q_322)) rfl rfl rfl (by decide +kernel) ⟨(Nat.le_of_ble_eq_true rfl), (Nat.le_of_ble_eq_true rfl)⟩) (preWV (ci := 3) (q0 := 0) hK (va_Pr hP) (va_Dr hD) rfl rfl) rfl rfl hl.1 rfl (lv_room (Nat.le_of_ble_eq_true rfl)) dL_law_400 ⟨(Nat.le_of_ble_eq_true rfl), (Nat.le_of_ble_eq_true rfl)⟩) hS hP hD rfl rfl (fun H locs hP hD hS => ?_)
  refine lv_icmp_eq (tgt := 564) hx hb dL_law_403 (by decide) (fun _ => ?_) (fun q => absurd rfl q)
  refine lv_iinc (v := nI (i + 5)) (lv' := [(3, .int (nI (i + 5))), (0, .ref b), (1, .ref h0), (2, .ref m0)]) hx hb dL_law_564 hl (k := 0) rfl (nI_add i 5) (by decide) rfl (fun ls hl => ?_)
  refine lv_goto (tgt := 28) hx hb dL_law_567 (by decide) ?_
  exact cont lim k1 syn tk1 ts1 tl1 th1 tt1 tv1 uk1 us1 ul1 uh1 ut1 uv1 ln1 rw_ mlim k2 msyn c2 mk1 ms1 mc1 me1 ch H locs ls I1 hP hD hS hl
