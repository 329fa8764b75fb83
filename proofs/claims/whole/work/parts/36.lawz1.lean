set_option maxHeartbeats 4000000 in
set_option maxRecDepth 100000 in
theorem law_create {p : Program} {l : Launch} {e : Env} {s : State} {m : MethodId} {below : List Frame} {meth : Method} {c : Code} {dC : Nat → ClassId} {dI : Nat → Nat → Nat} {cI : ClassId} {b L : Nat} {xs : Nat → Int32} (hL : L ≤ 2561) (C0 : lw_At p s m meth c b L xs) (hK : va_K (dC, dI) vwCl [(cI, .int)] s) (h0 ht0 ht1 ht2 ht3 ht4 ht5 ht6 hu0 hu1 hu2 hu3 hu4 hu5 hu6 hg0 hg1 m0 m1 m2 m3 m4 m5 : Nat) {i : Nat} (hi : i + 5 ≤ L) (cont : ∀ (lim kpt syn : Int32) (tk ts tl th tt tv uk us ul uh ut uv : AR) (ln : Int32) (rw_ : AR) (mlim mkpt msyn mcn : Int32) (mk ms mc me ch : AR) (H : Heap) (locs : List Loc) (ls : Array Slot), Inv lim kpt syn tk ts tl th tt tv uk us ul uh ut uv ln rw_ mlim mkpt msyn mcn mk ms mc me ch → va_P (dC, dI) vwCl ((wX2 cI h0 ht0 ht1 ht2 ht3 ht4 ht5 ht6 hu0 hu1 hu2 hu3 hu4 hu5 hu6 hg0 hg1 lim kpt syn tk ts tl th tt tv uk us ul uh ut uv ln rw_) ++ (wX3 cI m0 m1 m2 m3 m4 m5 mlim mkpt msyn mcn mk ms mc me ch)) H → va_D (fun q : Nat => s.heap.size ≤ q) ((wX2 cI h0 ht0 ht1 ht2 ht3 ht4 ht5 ht6 hu0 hu1 hu2 hu3 hu4 hu5 hu6 hg0 hg1 lim kpt syn tk ts tl th tt tv uk us ul uh ut uv ln rw_) ++ (wX3 cI m0 m1 m2 m3 m4 m5 mlim mkpt msyn mcn mk ms mc me ch)) → va_S (fun q : Nat => s.heap.size ≤ q) s.heap H locs → lv_has ls 4 [(3, .int (nI (i + 5))), (0, .ref b), (1, .ref h0), (2, .ref m0)] → W p l e room_1 s m #[Value.ref b] below meth c H locs 23 3893 (lw_Z below #[Value.ref b] s) (F0 m 28 ls [])) : ∀ (lim kpt syn : Int32) (tk ts tl th tt tv uk us ul uh ut uv : AR) (ln : Int32) (rw_ : AR) (mlim mkpt msyn mcn : Int32) (mk ms mc me ch : AR) (H : Heap) (locs : List Loc) (ls : Array Slot), Inv lim kpt syn tk ts tl th tt tv uk us ul uh ut uv ln rw_ mlim mkpt msyn mcn mk ms mc me ch → va_P (dC, dI) vwCl ((wX2 cI h0 ht0 ht1 ht2 ht3 ht4 ht5 ht6 hu0 hu1 hu2 hu3 hu4 hu5 hu6 hg0 hg1 lim kpt syn tk ts tl th tt tv uk us ul uh ut uv ln rw_) ++ (wX3 cI m0 m1 m2 m3 m4 m5 mlim mkpt msyn mcn mk ms mc me ch)) H → va_D (fun q : Nat => s.heap.size ≤ q) ((wX2 cI h0 ht0 ht1 ht2 ht3 ht4 ht5 ht6 hu0 hu1 hu2 hu3 hu4 hu5 hu6 hg0 hg1 lim kpt syn tk ts tl th tt tv uk us ul uh ut uv ln rw_) ++ (wX3 cI m0 m1 m2 m3 m4 m5 mlim mkpt msyn mcn mk ms mc me ch)) → va_S (fun q : Nat => s.heap.size ≤ q) s.heap H locs → lv_has ls 4 [(3, .int (nI (i))), (0, .ref b), (1, .ref h0), (2, .ref m0)] → W p l e room_1 s m #[Value.ref b] below meth c H locs 23 3893 (lw_Z below #[Value.ref b] s) (F0 m 108 ls []) := by
  obtain ⟨hx, hb, hr, hml, hown, hts, hX, hbl, hlocks, hgv⟩ := id C0
  have hown : s.vm.findClass RL = some m.cls := hown
  have hbA : ¬ (fun q : Nat => s.heap.size ≤ q) b := Nat.not_le.mpr hbl
  intro lim kpt syn tk ts tl th tt tv uk us ul uh ut uv ln rw_ mlim mkpt msyn mcn mk ms mc me ch H locs ls I hP hD hS hl
  refine lv_aload_n hx hb dL_law_108 rfl (lv_at hl 2 rfl) ?_
  refine lv_aload_n hx hb dL_law_109 rfl (lv_at hl 1 rfl) ?_
  refine lv_iload_n hx hb dL_law_110 rfl (lv_at hl 0 rfl) ?_
  refine lv_iconst (v := 1) hx hb dL_law_111 (by decide) ?_
  refine lv_iadd hx hb dL_law_112 ?_
  refine rw_nm (y := nI (i + 1)) (p1 i).symm ?_
  refine va_sld hx hb hX hbl hbA hS (vp_in_nI (n := i + 1) (by omega) (by omega)) dL_law_113 ?_
  refine rw_nm (y := xs (i + 1)) (by rw [nI_clamp (by omega)]) ?_
  refine lv_aload_n hx hb dL_law_114 rfl (lv_at hl 1 rfl) ?_
  refine lv_iload_n hx hb dL_law_115 rfl (lv_at hl 0 rfl) ?_
  refine lv_iconst (v := 2) hx hb dL_law_116 (by decide) ?_
  refine lv_iadd hx hb dL_law_117 ?_
  refine rw_nm (y := nI (i + 2)) (p2 i).symm ?_
  refine va_sld hx hb hX hbl hbA hS (vp_in_nI (n := i + 2) (by omega) (by omega)) dL_law_118 ?_
  refine rw_nm (y := xs (i + 2)) (by rw [nI_clamp (by omega)]) ?_
  refine lv_aload_n hx hb dL_law_119 rfl (lv_at hl 1 rfl) ?_
  refine lv_iload_n hx hb dL_law_120 rfl (lv_at hl 0 rfl) ?_
  refine lv_iconst (v := 3) hx hb dL_law_121 (by decide) ?_
  refine lv_iadd hx hb dL_law_122 ?_
  refine rw_nm (y := nI (i + 3)) (p3 i).symm ?_
  refine va_sld hx hb hX hbl hbA hS (vp_in_nI (n := i + 3) (by omega) (by omega)) dL_law_123 ?_
  refine rw_nm (y := xs (i + 3)) (by rw [nI_clamp (by omega)]) ?_
  refine lv_if_eq (tgt := 131) hx hb dL_law_124 (by decide) (fun z0_ => ?_) (fun z0_ => ?_)
  · refine lv_iconst (v := 0) hx hb dL_law_131 (by decide) ?_
    obtain ⟨r, k1, s1, tk1, ts1, tl1, th1, tt1, tv1, uk1, us1, ul1, uh1, ut1, uv1, ln1, rw1, k2, s2, c2, mk1, ms1, mc1, me1, ch1, o1, o2, I1⟩ := call_create I (xs (i + 1)) (xs (i + 2)) 0
    refine callLi (wa' := (wX2 cI h0 ht0 ht1 ht2 ht3 ht4 ht5 ht6 hu0 hu1 hu2 hu3 hu4 hu5 hu6 hg0 hg1 lim k1 s1 tk1 ts1 tl1 th1 tt1 tv1 uk1 us1 ul1 uh1 ut1 uv1 ln1 rw1)) (va_runV (As := [.int (xs (i + 1)), .int (xs (i + 2)), .int 0]) (rest := []) ⟨hx, hb, hml, hown, hts⟩ (cX2_create_met l dC dI cI h0 ht0 ht1 ht2 ht3 ht4 ht5 ht6 hu0 hu1 hu2 hu3 hu4 hu5 hu6 hg0 hg1 lim kpt syn tk ts tl th tt tv uk us ul uh ut uv ln rw_ (xs (i + 1)) (xs (i + 2)) 0 r k1 s1 tk1 ts1 tl1 th1 tt1 tv1 uk1 us1 ul1 uh1 ut1 uv1 ln1 rw1 o1) (cwV 3 hts (gInL (memV q_60 q_61 q_62 q_1 q_63)) rfl rfl rfl (by decide +kernel) ⟨(Nat.le_of_ble_eq_true rfl), (Nat.le_of_ble_eq_true rfl)⟩) (preWV (ci := 2) (q0 := 0) hK (va_Pl hP) (va_Dl hD) rfl rfl) rfl rfl hl.1 rfl (lv_room (Nat.le_of_ble_eq_true rfl)) dL_law_132 ⟨(Nat.le_of_ble_eq_true rfl), (Nat.le_of_ble_eq_true rfl)⟩) hS hP hD rfl rfl (fun H locs hP hD hS => ?_)
    refine lv_aload_n hx hb dL_law_135 rfl (lv_at hl 3 rfl) ?_
    refine lv_aload_n hx hb dL_law_136 rfl (lv_at hl 1 rfl) ?_
    refine lv_iload_n hx hb dL_law_137 rfl (lv_at hl 0 rfl) ?_
    refine lv_iconst (v := 1) hx hb dL_law_138 (by decide) ?_
    refine lv_iadd hx hb dL_law_139 ?_
    refine rw_nm (y := nI (i + 1)) (p1 i).symm ?_
    refine va_sld hx hb hX hbl hbA hS (vp_in_nI (n := i + 1) (by omega) (by omega)) dL_law_140 ?_
    refine rw_nm (y := xs (i + 1)) (by rw [nI_clamp (by omega)]) ?_
    refine lv_aload_n hx hb dL_law_141 rfl (lv_at hl 1 rfl) ?_
    refine lv_iload_n hx hb dL_law_142 rfl (lv_at hl 0 rfl) ?_
    refine lv_iconst (v := 2) hx hb dL_law_143 (by decide) ?_
    refine lv_iadd hx hb dL_law_144 ?_
    refine rw_nm (y := nI (i + 2)) (p2 i).symm ?_
    refine va_sld hx hb hX hbl hbA hS (vp_in_nI (n := i + 2) (by omega) (by omega)) dL_law_145 ?_
    refine rw_nm (y := xs (i + 2)) (by rw [nI_clamp (by omega)]) ?_
    refine lv_aload_n hx hb dL_law_146 rfl (lv_at hl 1 rfl) ?_
    refine lv_iload_n hx hb dL_law_147 rfl (lv_at hl 0 rfl) ?_
    refine lv_iconst (v := 3) hx hb dL_law_148 (by decide) ?_
    refine lv_iadd hx hb dL_law_149 ?_
    refine rw_nm (y := nI (i + 3)) (p3 i).symm ?_
    refine va_sld hx hb hX hbl hbA hS (vp_in_nI (n := i + 3) (by omega) (by omega)) dL_law_150 ?_
    refine rw_nm (y := xs (i + 3)) (by rw [nI_clamp (by omega)]) ?_
    refine lv_if_eq (tgt := 158) hx hb dL_law_151 (by decide) (fun _ => ?_) (fun z => absurd z0_ z)
    refine lv_iconst (v := 0) hx hb dL_law_158 (by decide) ?_
    refine callGi (wb' := (wX3 cI m0 m1 m2 m3 m4 m5 mlim k2 s2 c2 mk1 ms1 mc1 me1 ch1)) (va_runV (As := [.int (xs (i + 1)), .int (xs (i + 2)), .int 0]) (rest := [.int r]) ⟨hx, hb, hml, hown, hts⟩ (cX3_create_met l dC dI cI m0 m1 m2 m3 m4 m5 mlim mkpt msyn mcn mk ms mc me ch (xs (i + 1)) (xs (i + 2)) 0 r k2 s2 c2 mk1 ms1 mc1 me1 ch1 o2) (cwV 3 hts (gInL (memV q_251 q_252 q_253 q_5 q_254)) rfl rfl rfl (by decide +kernel) ⟨(Nat.le_of_ble_eq_true rfl), (Nat.le_of_ble_eq_true rfl)⟩) (preWV (ci := 3) (q0 := 0) hK (va_Pr hP) (va_Dr hD) rfl rfl) rfl rfl hl.1 rfl (lv_room (Nat.le_of_ble_eq_true rfl)) dL_law_159 ⟨(Nat.le_of_ble_eq_true rfl), (Nat.le_of_ble_eq_true rfl)⟩) hS hP hD rfl rfl (fun H locs hP hD hS => ?_)
    refine lv_icmp_eq (tgt := 564) hx hb dL_law_162 (by decide) (fun _ => ?_) (fun q => absurd rfl q)
    refine lv_iinc (v := nI (i + 5)) (lv' := [(3, .int (nI (i + 5))), (0, .ref b), (1, .ref h0), (2, .ref m0)]) hx hb dL_law_564 hl (k := 0) rfl (nI_add i 5) (by decide) rfl (fun ls hl => ?_)
    refine lv_goto (tgt := 28) hx hb dL_law_567 (by decide) ?_
    exact cont lim k1 s1 tk1 ts1 tl1 th1 tt1 tv1 uk1 us1 ul1 uh1 ut1 uv1 ln1 rw1 mlim k2 s2 c2 mk1 ms1 mc1 me1 ch1 H locs ls I1 hP hD hS hl
  · refine lv_iconst (v := 1) hx hb dL_law_127 (by decide) ?_
    refine lv_goto (tgt := 132) hx hb dL_law_128 (by decide) ?_
    obtain ⟨r, k1, s1, tk1, ts1, tl1, th1, tt1, tv1, uk1, us1, ul1, uh1, ut1, uv1, ln1, rw1, k2, s2, c2, mk1, ms1, mc1, me1, ch1, o1, o2, I1⟩ := call_create I (xs (i + 1)) (xs (i + 2)) 1
    refine callLi (wa' := (wX2 cI h0 ht0 ht1 ht2 ht3 ht4 ht5 ht6 hu0 hu1 hu2 hu3 hu4 hu5 hu6 hg0 hg1 lim k1 s1 tk1 ts1 tl1 th1 tt1 tv1 uk1 us1 ul1 uh1 ut1 uv1 ln1 rw1)) (va_runV (As := [.int (xs (i + 1)), .int (xs (i + 2)), .int 1]) (rest := []) ⟨hx, hb, hml, hown, hts⟩ (cX2_create_met l dC dI cI h0 ht0 ht1 ht2 ht3 ht4 ht5 ht6 hu0 hu1 hu2 hu3 hu4 hu5 hu6 hg0 hg1 lim kpt syn tk ts tl th tt tv uk us ul uh ut uv ln rw_ (xs (i + 1)) (xs (i + 2)) 1 r k1 s1 tk1 ts1 tl1 th1 tt1 tv1 uk1 us1 ul1 uh1 ut1 uv1 ln1 rw1 o1) (cwV 3 hts (gInL (memV q_60 q_61 q_62 q_1 q_63)) rfl rfl rfl (by decide +kernel) ⟨(Nat.le_of_ble_eq_true rfl), (Nat.le_of_ble_eq_true rfl)⟩) (preWV (ci := 2) (q0 := 0) hK (va_Pl hP) (va_Dl hD) rfl rfl) rfl rfl hl.1 rfl (lv_room (Nat.le_of_ble_eq_true rfl)) dL_law_132 ⟨(Nat.le_of_ble_eq_true rfl), (Nat.le_of_ble_eq_true rfl)⟩) hS hP hD rfl rfl (fun H locs hP hD hS => ?_)
    refine lv_aload_n hx hb dL_law_135 rfl (lv_at hl 3 rfl) ?_
    refine lv_aload_n hx hb dL_law_136 rfl (lv_at hl 1 rfl) ?_
    refine lv_iload_n hx hb dL_law_137 rfl (lv_at hl 0 rfl) ?_
    refine lv_iconst (v := 1) hx hb dL_law_138 (by decide) ?_
    refine lv_iadd hx hb dL_law_139 ?_
    refine rw_nm (y := nI (i + 1)) (p1 i).symm ?_
    refine va_sld hx hb hX hbl hbA hS (vp_in_nI (n := i + 1) (by omega) (by omega)) dL_law_140 ?_
    refine rw_nm (y := xs (i + 1)) (by rw [nI_clamp (by omega)]) ?_
    refine lv_aload_n hx hb dL_law_141 rfl (lv_at hl 1 rfl) ?_
    refine lv_iload_n hx hb dL_law_142 rfl (lv_at hl 0 rfl) ?_
    refine lv_iconst (v := 2) hx hb dL_law_143 (by decide) ?_
    refine lv_iadd hx hb dL_law_144 ?_
    refine rw_nm (y := nI (i + 2)) (p2 i).symm ?_
    refine va_sld hx hb hX hbl hbA hS (vp_in_nI (n := i + 2) (by omega) (by omega)) dL_law_145 ?_
    refine rw_nm (y := xs (i + 2)) (by rw [nI_clamp (by omega)]) ?_
    refine lv_aload_n hx hb dL_law_146 rfl (lv_at hl 1 rfl) ?_
    refine lv_iload_n hx hb dL_law_147 rfl (lv_at hl 0 rfl) ?_
    refine lv_iconst (v := 3) hx hb dL_law_148 (by decide) ?_
    refine lv_iadd hx hb dL_law_149 ?_
    refine rw_nm (y := nI (i + 3)) (p3 i).symm ?_
    refine va_sld hx hb hX hbl hbA hS (vp_in_nI (n := i + 3) (by omega) (by omega)) dL_law_150 ?_
    refine rw_nm (y := xs (i + 3)) (by rw [nI_clamp (by omega)]) ?_
    refine lv_if_eq (tgt := 158) hx hb dL_law_151 (by decide) (fun z => absurd z z0_) (fun _ => ?_)
    refine lv_iconst (v := 1) hx hb dL_law_154 (by decide) ?_
    refine lv_goto (tgt := 159) hx hb dL_law_155 (by decide) ?_
    refine callGi (wb' := (wX3 cI m0 m1 m2 m3 m4 m5 mlim k2 s2 c2 mk1 ms1 mc1 me1 ch1)) (va_runV (As := [.int (xs (i + 1)), .int (xs (i + 2)), .int 1]) (rest := [.int r]) ⟨hx, hb, hml, hown, hts⟩ (cX3_create_met l dC dI cI m0 m1 m2 m3 m4 m5 mlim mkpt msyn mcn mk ms mc me ch (xs (i + 1)) (xs (i + 2)) 1 r k2 s2 c2 mk1 ms1 mc1 me1 ch1 o2) (cwV 3 hts (gInL (memV q_251 q_252 q_253 q_5 q_254)) rfl rfl rfl (by decide +kernel) ⟨(Nat.le_of_ble_eq_true rfl), (Nat.le_of_ble_eq_true rfl)⟩) (preWV (ci := 3) (q0 := 0) hK (va_Pr hP) (va_Dr hD) rfl rfl) rfl rfl hl.1 rfl (lv_room (Nat.le_of_ble_eq_true rfl)) dL_law_159 ⟨(Nat.le_of_ble_eq_true rfl), (Nat.le_of_ble_eq_true rfl)⟩) hS hP hD rfl rfl (fun H locs hP hD hS => ?_)
    refine lv_icmp_eq (tgt := 564) hx hb dL_law_162 (by decide) (fun _ => ?_) (fun q => absurd rfl q)
    refine lv_iinc (v := nI (i + 5)) (lv' := [(3, .int (nI (i + 5))), (0, .ref b), (1, .ref h0), (2, .ref m0)]) hx hb dL_law_564 hl (k := 0) rfl (nI_add i 5) (by decide) rfl (fun ls hl => ?_)
    refine lv_goto (tgt := 28) hx hb dL_law_567 (by decide) ?_
    exact cont lim k1 s1 tk1 ts1 tl1 th1 tt1 tv1 uk1 us1 ul1 uh1 ut1 uv1 ln1 rw1 mlim k2 s2 c2 mk1 ms1 mc1 me1 ch1 H locs ls I1 hP hD hS hl
set_option maxHeartbeats 4000000 in
set_option maxRecDepth 100000 in
theorem law_link {p : Program} {l : Launch} {e : Env} {s : State} {m : MethodId} {below : List Frame} {meth : Method} {c : Code} {dC : Nat → ClassId} {dI : Nat → Nat → Nat} {cI : ClassId} {b L : Nat} {xs : Nat → Int32} (hL : L ≤ 2561) (C0 : lw_At p s m meth c b L xs) (hK : va_K (dC, dI) vwCl [(cI, .int)] s) (h0 ht0 ht1 ht2 ht3 ht4 ht5 ht6 hu0 hu1 hu2 hu3 hu4 hu5 hu6 hg0 hg1 m0 m1 m2 m3 m4 m5 : Nat) {i : Nat} (hi : i + 5 ≤ L) (cont : ∀ (lim kpt syn : Int32) (tk ts tl th tt tv uk us ul uh ut uv : AR) (ln : Int32) (rw_ : AR) (mlim mkpt msyn mcn : Int32) (mk ms mc me ch : AR) (H : Heap) (locs : List Loc) (ls : Array Slot), Inv lim kpt syn tk ts tl th tt tv uk us ul uh ut uv ln rw_ mlim mkpt msyn mcn mk ms mc me ch → va_P (dC, dI) vwCl ((wX2 cI h0 ht0 ht1 ht2 ht3 ht4 ht5 ht6 hu0 hu1 hu2 hu3 hu4 hu5 hu6 hg0 hg1 lim kpt syn tk ts tl th tt tv uk us ul uh ut uv ln rw_) ++ (wX3 cI m0 m1 m2 m3 m4 m5 mlim mkpt msyn mcn mk ms mc me ch)) H → va_D (fun q : Nat => s.heap.size ≤ q) ((wX2 cI h0 ht0 ht1 ht2 ht3 ht4 ht5 ht6 hu0 hu1 hu2 hu3 hu4 hu5 hu6 hg0 hg1 lim kpt syn tk ts tl th tt tv uk us ul uh ut uv ln rw_) ++ (wX3 cI m0 m1 m2 m3 m4 m5 mlim mkpt msyn mcn mk ms mc me ch)) → va_S (fun q : Nat => s.heap.size ≤ q) s.heap H locs → lv_has ls 4 [(3, .int (nI (i + 5))), (0, .ref b), (1, .ref h0), (2, .ref m0)] → W p l e room_1 s m #[Value.ref b] below meth c H locs 23 3893 (lw_Z below #[Value.ref b] s) (F0 m 28 ls [])) : ∀ (lim kpt syn : Int32) (tk ts tl th tt tv uk us ul uh ut uv : AR) (ln : Int32) (rw_ : AR) (mlim mkpt msyn mcn : Int32) (mk ms mc me ch : AR) (H : Heap) (locs : List Loc) (ls : Array Slot), Inv lim kpt syn tk ts tl th tt tv uk us ul uh ut uv ln rw_ mlim mkpt msyn mcn mk ms mc me ch → va_P (dC, dI) vwCl ((wX2 cI h0 ht0 ht1 ht2 ht3 ht4 ht5 ht6 hu0 hu1 hu2 hu3 hu4 hu5 hu6 hg0 hg1 lim kpt syn tk ts tl th tt tv uk us ul uh ut uv ln rw_) ++ (wX3 cI m0 m1 m2 m3 m4 m5 mlim mkpt msyn mcn mk ms mc me ch)) H → va_D (fun q : Nat => s.heap.size ≤ q) ((wX2 cI h0 ht0 ht1 ht2 ht3 ht4 ht5 ht6 hu0 hu1 hu2 hu3 hu4 hu5 hu6 hg0 hg1 lim kpt syn tk ts tl th tt tv uk us ul uh ut uv ln rw_) ++ (wX3 cI m0 m1 m2 m3 m4 m5 mlim mkpt msyn mcn mk ms mc me ch)) → va_S (fun q : Nat => s.heap.size ≤ q) s.heap H locs → lv_has ls 4 [(3, .int (nI (i))), (0, .ref b), (1, .ref h0), (2, .ref m0)] → W p l e room_1 s m #[Value.ref b] below meth c H locs 23 3893 (lw_Z below #[Value.ref b] s) (F0 m 167 ls []) := by
  obtain ⟨hx, hb, hr, hml, hown, hts, hX, hbl, hlocks, hgv⟩ := id C0
  have hown : s.vm.findClass RL = some m.cls := hown
  have hbA : ¬ (fun q : Nat => s.heap.size ≤ q) b := Nat.not_le.mpr hbl
  intro lim kpt syn tk ts tl th tt tv uk us ul uh ut uv ln rw_ mlim mkpt msyn mcn mk ms mc me ch H locs ls I hP hD hS hl
  refine lv_aload_n hx hb dL_law_167 rfl (lv_at hl 2 rfl) ?_
  refine lv_aload_n hx hb dL_law_168 rfl (lv_at hl 1 rfl) ?_
  refine lv_iload_n hx hb dL_law_169 rfl (lv_at hl 0 rfl) ?_
  refine lv_iconst (v := 1) hx hb dL_law_170 (by decide) ?_
  refine lv_iadd hx hb dL_law_171 ?_
  refine rw_nm (y := nI (i + 1)) (p1 i).symm ?_
  refine va_sld hx hb hX hbl hbA hS (vp_in_nI (n := i + 1) (by omega) (by omega)) dL_law_172 ?_
  refine rw_nm (y := xs (i + 1)) (by rw [nI_clamp (by omega)]) ?_
  refine lv_aload_n hx hb dL_law_173 rfl (lv_at hl 1 rfl) ?_
  refine lv_iload_n hx hb dL_law_174 rfl (lv_at hl 0 rfl) ?_
  refine lv_iconst (v := 2) hx hb dL_law_175 (by decide) ?_
  refine lv_iadd hx hb dL_law_176 ?_
  refine rw_nm (y := nI (i + 2)) (p2 i).symm ?_
  refine va_sld hx hb hX hbl hbA hS (vp_in_nI (n := i + 2) (by omega) (by omega)) dL_law_177 ?_
  refine rw_nm (y := xs (i + 2)) (by rw [nI_clamp (by omega)]) ?_
  refine lv_aload_n hx hb dL_law_178 rfl (lv_at hl 1 rfl) ?_
  refine lv_iload_n hx hb dL_law_179 rfl (lv_at hl 0 rfl) ?_
  refine lv_iconst (v := 3) hx hb dL_law_180 (by decide) ?_
  refine lv_iadd hx hb dL_law_181 ?_
  refine rw_nm (y := nI (i + 3)) (p3 i).symm ?_
  refine va_sld hx hb hX hbl hbA hS (vp_in_nI (n := i + 3) (by omega) (by omega)) dL_law_182 ?_
  refine rw_nm (y := xs (i + 3)) (by rw [nI_clamp (by omega)]) ?_
  obtain ⟨r, k1, s1, tk1, ts1, tl1, th1, tt1, tv1, uk1, us1, ul1, uh1, ut1, uv1, ln1, rw1, k2, s2, c2, mk1, ms1, mc1, me1, ch1, o1, o2, I1⟩ := call_link I (xs (i + 1)) (xs (i + 2)) (xs (i + 3))
  refine callLi (wa' := (wX2 cI h0 ht0 ht1 ht2 ht3 ht4 ht5 ht6 hu0 hu1 hu2 hu3 hu4 hu5 hu6 hg0 hg1 lim k1 s1 tk1 ts1 tl1 th1 tt1 tv1 uk1 us1 ul1 uh1 ut1 uv1 ln1 rw1)) (va_runV (As := [.int (xs (i + 1)), .int (xs (i + 2)), .int (xs (i + 3))]) (rest := []) ⟨hx, hb, hml, hown, hts⟩ (cX2_link_met l dC dI cI h0 ht0 ht1 ht2 ht3 ht4 ht5 ht6 hu0 hu1 hu2 hu3 hu4 hu5 hu6 hg0 hg1 lim kpt syn tk ts tl th tt tv uk us ul uh ut uv ln rw_ (xs (i + 1)) (xs (i + 2)) (xs (i + 3)) r k1 s1 tk1 ts1 tl1 th1 tt1 tv1 uk1 us1 ul1 uh1 ut1 uv1 ln1 rw1 o1) (cwV 3 hts (gInL (memV q_155 q_156 q_157 q_1 q_158)) rfl rfl rfl (by decide +kernel) ⟨(Nat.le_of_ble_eq_true rfl), (Nat.le_of_ble_eq_true rfl)⟩) (preWV (ci := 2) (q0 := 0) hK (va_Pl hP) (va_Dl hD) rfl rfl) rfl rfl hl.1 rfl (lv_room (Nat.le_of_ble_eq_true rfl)) dL_law_183 ⟨(Nat.le_of_ble_eq_true rfl), (Nat.le_of_ble_eq_true rfl)⟩) hS hP hD rfl rfl (fun H locs hP hD hS => ?_)
  refine lv_aload_n hx hb dL_law_186 rfl (lv_at hl 3 rfl) ?_
  refine lv_aload_n hx hb dL_law_187 rfl (lv_at hl 1 rfl) ?_
  refine lv_iload_n hx hb dL_law_188 rfl (lv_at hl 0 rfl) ?_
  refine lv_iconst (v := 1) hx hb dL_law_189 (by decide) ?_
  refine lv_iadd hx hb dL_law_190 ?_
  refine rw_nm (y := nI (i + 1)) (p1 i).symm ?_
  refine va_sld hx hb hX hbl hbA hS (vp_in_nI (n := i + 1) (by omega) (by omega)) dL_law_191 ?_
  refine rw_nm (y := xs (i + 1)) (by rw [nI_clamp (by omega)]) ?_
  refine lv_aload_n hx hb dL_law_192 rfl (lv_at hl 1 rfl) ?_
  refine lv_iload_n hx hb dL_law_193 rfl (lv_at hl 0 rfl) ?_
  refine lv_iconst (v := 2) hx hb dL_law_194 (by decide) ?_
  refine lv_iadd hx hb dL_law_195 ?_
  refine rw_nm (y := nI (i + 2)) (p2 i).symm ?_
  refine va_sld hx hb hX hbl hbA hS (vp_in_nI (n := i + 2) (by omega) (by omega)) dL_law_196 ?_
  refine rw_nm (y := xs (i + 2)) (by rw [nI_clamp (by omega)]) ?_
  refine lv_aload_n hx hb dL_law_197 rfl (lv_at hl 1 rfl) ?_
  refine lv_iload_n hx hb dL_law_198 rfl (lv_at hl 0 rfl) ?_
  refine lv_iconst (v := 3) hx hb dL_law_199 (by decide) ?_
  refine lv_iadd hx hb dL_law_200 ?_
  refine rw_nm (y := nI (i + 3)) (p3 i).symm ?_
  refine va_sld hx hb hX hbl hbA hS (vp_in_nI (n := i + 3) (by omega) (by omega)) dL_law_201 ?_
  refine rw_nm (y := xs (i + 3)) (by rw [nI_clamp (by omega)]) ?_
  refine callGi (wb' := (wX3 cI m0 m1 m2 m3 m4 m5 mlim k2 s2 c2 mk1 ms1 mc1 me1 ch1)) (va_runV (As := [.int (xs (i + 1)), .int (xs (i + 2)), .int (xs (i + 3))]) (rest := [.int r]) ⟨hx, hb, hml, hown, hts⟩ (cX3_link_met l dC dI cI m0 m1 m2 m3 m4 m5 mlim mkpt msyn mcn mk ms mc me ch (xs (i + 1)) (xs (i + 2)) (xs (i + 3)) r k2 s2 c2 mk1 ms1 mc1 me1 ch1 o2) (cwV 3 hts (gInL (memV q_298 q_299 q_300 q_5 q_301)) rfl rfl rfl (by decide +kernel) ⟨(Nat.le_of_ble_eq_true rfl), (Nat.le_of_ble_eq_true rfl)⟩) (preWV (ci := 3) (q0 := 0) hK (va_Pr hP) (va_Dr hD) rfl rfl) rfl rfl hl.1 rfl (lv_room (Nat.le_of_ble_eq_true rfl)) dL_law_202 ⟨(Nat.le_of_ble_eq_true rfl), (Nat.le_of_ble_eq_true rfl)⟩) hS hP hD rfl rfl (fun H locs hP hD hS => ?_)
  refine lv_icmp_eq (tgt := 564) hx hb dL_law_205 (by decide) (fun _ => ?_) (fun q => absurd rfl q)
  refine lv_iinc (v := nI (i + 5)) (lv' := [(3, .int (nI (i + 5))), (0, .ref b), (1, .ref h0), (2, .ref m0)]) hx hb dL_law_564 hl (k := 0) rfl (nI_add i 5) (by decide) rfl (fun ls hl => ?_)
  refine lv_goto (tgt := 28) hx hb dL_law_567 (by decide) ?_
  exact cont lim k1 s1 tk1 ts1 tl1 th1 tt1 tv1 uk1 us1 ul1 uh1 ut1 uv1 ln1 rw1 mlim k2 s2 c2 mk1 ms1 mc1 me1 ch1 H locs ls I1 hP hD hS hl
set_option maxHeartbeats 4000000 in
set_option maxRecDepth 100000 in
theorem law_remove {p : Program} {l : Launch} {e : Env} {s : State} {m : MethodId} {below : List Frame} {meth : Method} {c : Code} {dC : Nat → ClassId} {dI : Nat → Nat → Nat} {cI : ClassId} {b L : Nat} {xs : Nat → Int32} (hL : L ≤ 2561) (C0 : lw_At p s m meth c b L xs) (hK : va_K (dC, dI) vwCl [(cI, .int)] s) (h0 ht0 ht1 ht2 ht3 ht4 ht5 ht6 hu0 hu1 hu2 hu3 hu4 hu5 hu6 hg0 hg1 m0 m1 m2 m3 m4 m5 : Nat) {i : Nat} (hi : i + 5 ≤ L) (cont : ∀ (lim kpt syn : Int32) (tk ts tl th tt tv uk us ul uh ut uv : AR) (ln : Int32) (rw_ : AR) (mlim mkpt msyn mcn : Int32) (mk ms mc me ch : AR) (H : Heap) (locs : List Loc) (ls : Array Slot), Inv lim kpt syn tk ts tl th tt tv uk us ul uh ut uv ln rw_ mlim mkpt msyn mcn mk ms mc me ch → va_P (dC, dI) vwCl ((wX2 cI h0 ht0 ht1 ht2 ht3 ht4 ht5 ht6 hu0 hu1 hu2 hu3 hu4 hu5 hu6 hg0 hg1 lim kpt syn tk ts tl th tt tv uk us ul uh ut uv ln rw_) ++ (wX3 cI m0 m1 m2 m3 m4 m5 mlim mkpt msyn mcn mk ms mc me ch)) H → va_D (fun q : Nat => s.heap.size ≤ q) ((wX2 cI h0 ht0 ht1 ht2 ht3 ht4 ht5 ht6 hu0 hu1 hu2 hu3 hu4 hu5 hu6 hg0 hg1 lim kpt syn tk ts tl th tt tv uk us ul uh ut uv ln rw_) ++ (wX3 cI m0 m1 m2 m3 m4 m5 mlim mkpt msyn mcn mk ms mc me ch)) → va_S (fun q : Nat => s.heap.size ≤ q) s.heap H locs → lv_has ls 4 [(3, .int (nI (i + 5))), (0, .ref b), (1, .ref h0), (2, .ref m0)] → W p l e room_1 s m #[Value.ref b] below meth c H locs 23 3893 (lw_Z below #[Value.ref b] s) (F0 m 28 ls [])) : ∀ (lim kpt syn : Int32) (tk ts tl th tt tv uk us ul uh ut uv : AR) (ln : Int32) (rw_ : AR) (mlim mkpt msyn mcn : Int32) (mk ms mc me ch : AR) (H : Heap) (locs : List Loc) (ls : Array Slot), Inv lim kpt syn tk ts tl th tt tv uk us ul uh ut uv ln rw_ mlim mkpt msyn mcn mk ms mc me ch → va_P (dC, dI) vwCl ((wX2 cI h0 ht0 ht1 ht2 ht3 ht4 ht5 ht6 hu0 hu1 hu2 hu3 hu4 hu5 hu6 hg0 hg1 lim kpt syn tk ts tl th tt tv uk us ul uh ut uv ln rw_) ++ (wX3 cI m0 m1 m2 m3 m4 m5 mlim mkpt msyn mcn mk ms mc me ch)) H → va_D (fun q : Nat => s.heap.size ≤ q) ((wX2 cI h0 ht0 ht1 ht2 ht3 ht4 ht5 ht6 hu0 hu1 hu2 hu3 hu4 hu5 hu6 hg0 hg1 lim kpt syn tk ts tl th tt tv uk us ul uh ut uv ln rw_) ++ (wX3 cI m0 m1 m2 m3 m4 m5 mlim mkpt msyn mcn mk ms mc me ch)) → va_S (fun q : Nat => s.heap.size ≤ q) s.heap H locs → lv_has ls 4 [(3, .int (nI (i))), (0, .ref b), (1, .ref h0), (2, .ref m0)] → W p l e room_1 s m #[Value.ref b] below meth c H locs 23 3893 (lw_Z below #[Value.ref b] s) (F0 m 210 ls []) := by
  obtain ⟨hx, hb, hr, hml, hown, hts, hX, hbl, hlocks, hgv⟩ := id C0
  have hown : s.vm.findClass RL = some m.cls := hown
  have hbA : ¬ (fun q : Nat => s.heap.size ≤ q) b := Nat.not_le.mpr hbl
  intro lim kpt syn tk ts tl th tt tv uk us ul uh ut uv ln rw_ mlim mkpt msyn mcn mk ms mc me ch H locs ls I hP hD hS hl
  refine lv_aload_n hx hb dL_law_210 rfl (lv_at hl 2 rfl) ?_
  refine lv_aload_n hx hb dL_law_211 rfl (lv_at hl 1 rfl) ?_
  refine lv_iload_n hx hb dL_law_212 rfl (lv_at hl 0 rfl) ?_
  refine lv_iconst (v := 1) hx hb dL_law_213 (by decide) ?_
  refine lv_iadd hx hb dL_law_214 ?_
  refine rw_nm (y := nI (i + 1)) (p1 i).symm ?_
  refine va_sld hx hb hX hbl hbA hS (vp_in_nI (n := i + 1) (by omega) (by omega)) dL_law_215 ?_
  refine rw_nm (y := xs (i + 1)) (by rw [nI_clamp (by omega)]) ?_
  refine lv_aload_n hx hb dL_law_216 rfl (lv_at hl 1 rfl) ?_
  refine lv_iload_n hx hb dL_law_217 rfl (lv_at hl 0 rfl) ?_
  refine lv_iconst (v := 2) hx hb dL_law_218 (by decide) ?_
  refine lv_iadd hx hb dL_law_219 ?_
  refine rw_nm (y := nI (i + 2)) (p2 i).symm ?_
  refine va_sld hx hb hX hbl hbA hS (vp_in_nI (n := i + 2) (by omega) (by omega)) dL_law_220 ?_
  refine rw_nm (y := xs (i + 2)) (by rw [nI_clamp (by omega)]) ?_
  obtain ⟨r, k1, s1, tk1, ts1, tl1, th1, tt1, tv1, uk1, us1, ul1, uh1, ut1, uv1, ln1, rw1, k2, s2, c2, mk1, ms1, mc1, me1, ch1, o1, o2, I1⟩ := call_remove I (xs (i + 1)) (xs (i + 2))
  refine callLi (wa' := (wX2 cI h0 ht0 ht1 ht2 ht3 ht4 ht5 ht6 hu0 hu1 hu2 hu3 hu4 hu5 hu6 hg0 hg1 lim k1 s1 tk1 ts1 tl1 th1 tt1 tv1 uk1 us1 ul1 uh1 ut1 uv1 ln1 rw1)) (va_runV (As := [.int (xs (i + 1)), .int (xs (i + 2))]) (rest := []) ⟨hx, hb, hml, hown, hts⟩ (cX2_remove_met l dC dI cI h0 ht0 ht1 ht2 ht3 ht4 ht5 ht6 hu0 hu1 hu2 hu3 hu4 hu5 hu6 hg0 hg1 lim kpt syn tk ts tl th tt tv uk us ul uh ut uv ln rw_ (xs (i + 1)) (xs (i + 2)) r k1 s1 tk1 ts1 tl1 th1 tt1 tv1 uk1 us1 ul1 uh1 ut1 uv1 ln1 rw1 o1) (cwV 2 hts (gInL (memV q_160 q_161 q_162 q_1 q_163)) rfl rfl rfl (by decide +kernel) ⟨(Nat.le_of_ble_eq_true rfl), (Nat.le_of_ble_eq_true rfl)⟩) (preWV (ci := 2) (q0 := 0) hK (va_Pl hP) (va_Dl hD) rfl rfl) rfl rfl hl.1 rfl (lv_room (Nat.le_of_ble_eq_true rfl)) dL_law_221 ⟨(Nat.le_of_ble_eq_true rfl), (Nat.le_of_ble_eq_true rfl)⟩) hS hP hD rfl rfl (fun H locs hP hD hS => ?_)
  refine lv_aload_n hx hb dL_law_224 rfl (lv_at hl 3 rfl) ?_
  refine lv_aload_n hx hb dL_law_225 rfl (lv_at hl 1 rfl) ?_
  refine lv_iload_n hx hb dL_law_226 rfl (lv_at hl 0 rfl) ?_
  refine lv_iconst (v := 1) hx hb dL_law_227 (by decide) ?_
  refine lv_iadd hx hb dL_law_228 ?_
  refine rw_nm (y := nI (i + 1)) (p1 i).symm ?_
  refine va_sld hx hb hX hbl hbA hS (vp_in_nI (n := i + 1) (by omega) (by omega)) dL_law_229 ?_
  refine rw_nm (y := xs (i + 1)) (by rw [nI_clamp (by omega)]) ?_
  refine lv_aload_n hx hb dL_law_230 rfl (lv_at hl 1 rfl) ?_
  refine lv_iload_n hx hb dL_law_231 rfl (lv_at hl 0 rfl) ?_
  refine lv_iconst (v := 2) hx hb dL_law_232 (by decide) ?_
  refine lv_iadd hx hb dL_law_233 ?_
  refine rw_nm (y := nI (i + 2)) (p2 i).symm ?_
  refine va_sld hx hb hX hbl hbA hS (vp_in_nI (n := i + 2) (by omega) (by omega)) dL_law_234 ?_
  refine rw_nm (y := xs (i + 2)) (by rw [nI_clamp (by omega)]) ?_
  refine callGi (wb' := (wX3 cI m0 m1 m2 m3 m4 m5 mlim k2 s2 c2 mk1 ms1 mc1 me1 ch1)) (va_runV (As := [.int (xs (i + 1)), .int (xs (i + 2))]) (rest := [.int r]) ⟨hx, hb, hml, hown, hts⟩ (cX3_remove_met l dC dI cI m0 m1 m2 m3 m4 m5 mlim mkpt msyn mcn mk ms mc me ch (xs (i + 1)) (xs (i + 2)) r k2 s2 c2 mk1 ms1 mc1 me1 ch1 o2) (cwV 2 hts (gInL (memV q_302 q_303 q_304 q_5 q_305)) rfl rfl rfl (by decide +kernel) ⟨(Nat.le_of_ble_eq_true rfl), (Nat.le_of_ble_eq_true rfl)⟩) (preWV (ci := 3) (q0 := 0) hK (va_Pr hP) (va_Dr hD) rfl rfl) rfl rfl hl.1 rfl (lv_room (Nat.le_of_ble_eq_true rfl)) dL_law_235 ⟨(Nat.le_of_ble_eq_true rfl), (Nat.le_of_ble_eq_true rfl)⟩) hS hP hD rfl rfl (fun H locs hP hD hS => ?_)
  refine lv_icmp_eq (tgt := 564) hx hb dL_law_238 (by decide) (fun _ => ?_) (fun q => absurd rfl q)
  refine lv_iinc (v := nI (i + 5)) (lv' := [(3, .int (nI (i + 5))), (0, .ref b), (1, .ref h0), (2, .ref m0)]) hx hb dL_law_564 hl (k := 0) rfl (nI_add i 5) (by decide) rfl (fun ls hl => ?_)
  refine lv_goto (tgt := 28) hx hb dL_law_567 (by decide) ?_
  exact cont lim k1 s1 tk1 ts1 tl1 th1 tt1 tv1 uk1 us1 ul1 uh1 ut1 uv1 ln1 rw1 mlim k2 s2 c2 mk1 ms1 mc1 me1 ch1 H locs ls I1 hP hD hS hl
set_option maxHeartbeats 4000000 in
set_option maxRecDepth 100000 in
theorem law_rename {p : Program} {l : Launch} {e : Env} {s : State} {m : MethodId} {below : List Frame} {meth : Method} {c : Code} {dC : Nat → ClassId} {dI : Nat → Nat → Nat} {cI : ClassId} {b L : Nat} {xs : Nat → Int32} (hL : L ≤ 2561) (C0 : lw_At p s m meth c b L xs) (hK : va_K (dC, dI) vwCl [(cI, .int)] s) (h0 ht0 ht1 ht2 ht3 ht4 ht5 ht6 hu0 hu1 hu2 hu3 hu4 hu5 hu6 hg0 hg1 m0 m1 m2 m3 m4 m5 : Nat) {i : Nat} (hi : i + 5 ≤ L) (cont : ∀ (lim kpt syn : Int32) (tk ts tl th tt tv uk us ul uh ut uv : AR) (ln : Int32) (rw_ : AR) (mlim mkpt msyn mcn : Int32) (mk ms mc me ch : AR) (H : Heap) (locs : List Loc) (ls : Array Slot), Inv lim kpt syn tk ts tl th tt tv uk us ul uh ut uv ln rw_ mlim mkpt msyn mcn mk ms mc me ch → va_P (dC, dI) vwCl ((wX2 cI h0 ht0 ht1 ht2 ht3 ht4 ht5 ht6 hu0 hu1 hu2 hu3 hu4 hu5 hu6 hg0 hg1 lim kpt syn tk ts tl th tt tv uk us ul uh ut uv ln rw_) ++ (wX3 cI m0 m1 m2 m3 m4 m5 mlim mkpt msyn mcn mk ms mc me ch)) H → va_D (fun q : Nat => s.heap.size ≤ q) ((wX2 cI h0 ht0 ht1 ht2 ht3 ht4 ht5 ht6 hu0 hu1 hu2 hu3 hu4 hu5 hu6 hg0 hg1 lim kpt syn tk ts tl th tt tv uk us ul uh ut uv ln rw_) ++ (wX3 cI m0 m1 m2 m3 m4 m5 mlim mkpt msyn mcn mk ms mc me ch)) → va_S (fun q : Nat => s.heap.size ≤ q) s.heap H locs → lv_has ls 4 [(3, .int (nI (i + 5))), (0, .ref b), (1, .ref h0), (2, .ref m0)] → W p l e room_1 s m #[Value.ref b] below meth c H locs 23 3893 (lw_Z below #[Value.ref b] s) (F0 m 28 ls [])) : ∀ (lim kpt syn : Int32) (tk ts tl th tt tv uk us ul uh ut uv : AR) (ln : Int32) (rw_ : AR) (mlim mkpt msyn mcn : Int32) (mk ms mc me ch : AR) (H : Heap) (locs : List Loc) (ls : Array Slot), Inv lim kpt syn tk ts tl th tt tv uk us ul uh ut uv ln rw_ mlim mkpt msyn mcn mk ms mc me ch → va_P (dC, dI) vwCl ((wX2 cI h0 ht0 ht1 ht2 ht3 ht4 ht5 ht6 hu0 hu1 hu2 hu3 hu4 hu5 hu6 hg0 hg1 lim kpt syn tk ts tl th tt tv uk us ul uh ut uv ln rw_) ++ (wX3 cI m0 m1 m2 m3 m4 m5 mlim mkpt msyn mcn mk ms mc me ch)) H → va_D (fun q : Nat => s.heap.size ≤ q) ((wX2 cI h0 ht0 ht1 ht2 ht3 ht4 ht5 ht6 hu0 hu1 hu2 hu3 hu4 hu5 hu6 hg0 hg1 lim kpt syn tk ts tl th tt tv uk us ul uh ut uv ln rw_) ++ (wX3 cI m0 m1 m2 m3 m4 m5 mlim mkpt msyn mcn mk ms mc me ch)) → va_S (fun q : Nat => s.heap.size ≤ q) s.heap H locs → lv_has ls 4 [(3, .int (nI (i))), (0, .ref b), (1, .ref h0), (2, .ref m0)] → W p l e room_1 s m #[Value.ref b] below meth c H locs 23 3893 (lw_Z below #[Value.ref b] s) (F0 m 243 ls []) := by
  obtain ⟨hx, hb, hr, hml, hown, hts, hX, hbl, hlocks, hgv⟩ := id C0
  have hown : s.vm.findClass RL = some m.cls := hown
  have hbA : ¬ (fun q : Nat => s.heap.size ≤ q) b := Nat.not_le.mpr hbl
  intro lim kpt syn tk ts tl th tt tv uk us ul uh ut uv ln rw_ mlim mkpt msyn mcn mk ms mc me ch H locs ls I hP hD hS hl
  refine lv_aload_n hx hb dL_law_243 rfl (lv_at hl 2 rfl) ?_
  refine lv_aload_n hx hb dL_law_244 rfl (lv_at hl 1 rfl) ?_
  refine lv_iload_n hx hb dL_law_245 rfl (lv_at hl 0 rfl) ?_
  refine lv_iconst (v := 1) hx hb dL_law_246 (by decide) ?_
  refine lv_iadd hx hb dL_law_247 ?_
  refine rw_nm (y := nI (i + 1)) (p1 i).symm ?_
  refine va_sld hx hb hX hbl hbA hS (vp_in_nI (n := i + 1) (by omega) (by omega)) dL_law_248 ?_
  refine rw_nm (y := xs (i + 1)) (by rw [nI_clamp (by omega)]) ?_
  refine lv_aload_n hx hb dL_law_249 rfl (lv_at hl 1 rfl) ?_
  refine lv_iload_n hx hb dL_law_250 rfl (lv_at hl 0 rfl) ?_
  refine lv_iconst (v := 2) hx hb dL_law_251 (by decide) ?_
  refine lv_iadd hx hb dL_law_252 ?_
  refine rw_nm (y := nI (i + 2)) (p2 i).symm ?_
  refine va_sld hx hb hX hbl hbA hS (vp_in_nI (n := i + 2) (by omega) (by omega)) dL_law_253 ?_
  refine rw_nm (y := xs (i + 2)) (by rw [nI_clamp (by omega)]) ?_
  refine lv_aload_n hx hb dL_law_254 rfl (lv_at hl 1 rfl) ?_
  refine lv_iload_n hx hb dL_law_255 rfl (lv_at hl 0 rfl) ?_
  refine lv_iconst (v := 3) hx hb dL_law_256 (by decide) ?_
  refine lv_iadd hx hb dL_law_257 ?_
  refine rw_nm (y := nI (i + 3)) (p3 i).symm ?_
  refine va_sld hx hb hX hbl hbA hS (vp_in_nI (n := i + 3) (by omega) (by omega)) dL_law_258 ?_
  refine rw_nm (y := xs (i + 3)) (by rw [nI_clamp (by omega)]) ?_
  refine lv_aload_n hx hb dL_law_259 rfl (lv_at hl 1 rfl) ?_
  refine lv_iload_n hx hb dL_law_260 rfl (lv_at hl 0 rfl) ?_
  refine lv_iconst (v := 4) hx hb dL_law_261 (by decide) ?_
  refine lv_iadd hx hb dL_law_262 ?_
  refine rw_nm (y := nI (i + 4)) (p4 i).symm ?_
  refine va_sld hx hb hX hbl hbA hS (vp_in_nI (n := i + 4) (by omega) (by omega)) dL_law_263 ?_
  refine rw_nm (y := xs (i + 4)) (by rw [nI_clamp (by omega)]) ?_
  obtain ⟨r, k1, s1, tk1, ts1, tl1, th1, tt1, tv1, uk1, us1, ul1, uh1, ut1, uv1, ln1, rw1, k2, s2, c2, mk1, ms1, mc1, me1, ch1, o1, o2, I1⟩ := call_rename I (xs (i + 1)) (xs (i + 2)) (xs (i + 3)) (xs (i + 4))
  refine callLi (wa' := (wX2 cI h0 ht0 ht1 ht2 ht3 ht4 ht5 ht6 hu0 hu1 hu2 hu3 hu4 hu5 hu6 hg0 hg1 lim k1 s1 tk1 ts1 tl1 th1 tt1 tv1 uk1 us1 ul1 uh1 ut1 uv1 ln1 rw1)) (va_runV (As := [.int (xs (i + 1)), .int (xs (i + 2)), .int (xs (i + 3)), .int (xs (i + 4))]) (rest := []) ⟨hx, hb, hml, hown, hts⟩ (cX2_rename_met l dC dI cI h0 ht0 ht1 ht2 ht3 ht4 ht5 ht6 hu0 hu1 hu2 hu3 hu4 hu5 hu6 hg0 hg1 lim kpt syn tk ts tl th tt tv uk us ul uh ut uv ln rw_ (xs (i + 1)) (xs (i + 2)) (xs (i + 3)) (xs (i + 4)) r k1 s1 tk1 ts1 tl1 th1 tt1 tv1 uk1 us1 ul1 uh1 ut1 uv1 ln1 rw1 o1) (cwV 4 hts (gInL (memV q_169 q_170 q_171 q_1 q_172)) rfl rfl rfl (by decide +kernel) ⟨(Nat.le_of_ble_eq_true rfl), (Nat.le_of_ble_eq_true rfl)⟩) (preWV (ci := 2) (q0 := 0) hK (va_Pl hP) (va_Dl hD) rfl rfl) rfl rfl hl.1 rfl (lv_room (Nat.le_of_ble_eq_true rfl)) dL_law_264 ⟨(Nat.le_of_ble_eq_true rfl), (Nat.le_of_ble_eq_true rfl)⟩) hS hP hD rfl rfl (fun H locs hP hD hS => ?_)
  refine lv_aload_n hx hb dL_law_267 rfl (lv_at hl 3 rfl) ?_
  refine lv_aload_n hx hb dL_law_268 rfl (lv_at hl 1 rfl) ?_
  refine lv_iload_n hx hb dL_law_269 rfl (lv_at hl 0 rfl) ?_
  refine lv_iconst (v := 1) hx hb dL_law_270 (by decide) ?_
  refine lv_iadd hx hb dL_law_271 ?_
  refine rw_nm (y := nI (i + 1)) (p1 i).symm ?_
  refine va_sld hx hb hX hbl hbA hS (vp_in_nI (n := i + 1) (by omega) (by omega)) dL_law_272 ?_
  refine rw_nm (y := xs (i + 1)) (by rw [nI_clamp (by omega)]) ?_
  refine lv_aload_n hx hb dL_law_273 rfl (lv_at hl 1 rfl) ?_
  refine lv_iload_n hx hb dL_law_274 rfl (lv_at hl 0 rfl) ?_
  refine lv_iconst (v := 2) hx hb dL_law_275 (by decide) ?_
  refine lv_iadd hx hb dL_law_276 ?_
  refine rw_nm (y := nI (i + 2)) (p2 i).symm ?_
  refine va_sld hx hb hX hbl hbA hS (vp_in_nI (n := i + 2) (by omega) (by omega)) dL_law_277 ?_
  refine rw_nm (y := xs (i + 2)) (by rw [nI_clamp (by omega)]) ?_
  refine lv_aload_n hx hb dL_law_278 rfl (lv_at hl 1 rfl) ?_
  refine lv_iload_n hx hb dL_law_279 rfl (lv_at hl 0 rfl) ?_
  refine lv_iconst (v := 3) hx hb dL_law_280 (by decide) ?_
  refine lv_iadd hx hb dL_law_281 ?_
  refine rw_nm (y := nI (i + 3)) (p3 i).symm ?_
  refine va_sld hx hb hX hbl hbA hS (vp_in_nI (n := i + 3) (by omega) (by omega)) dL_law_282 ?_
  refine rw_nm (y := xs (i + 3)) (by rw [nI_clamp (by omega)]) ?_
  refine lv_aload_n hx hb dL_law_283 rfl (lv_at hl 1 rfl) ?_
  refine lv_iload_n hx hb dL_law_284 rfl (lv_at hl 0 rfl) ?_
  refine lv_iconst (v := 4) hx hb dL_law_285 (by decide) ?_
  refine lv_iadd hx hb dL_law_286 ?_
  refine rw_nm (y := nI (i + 4)) (p4 i).symm ?_
  refine va_sld hx hb hX hbl hbA hS (vp_in_nI (n := i + 4) (by omega) (by omega)) dL_law_287 ?_
  refine rw_nm (y := xs (i + 4)) (by rw [nI_clamp (by omega)]) ?_
  refine callGi (wb' := (wX3 cI m0 m1 m2 m3 m4 m5 mlim k2 s2 c2 mk1 ms1 mc1 me1 ch1)) (va_runV (As := [.int (xs (i + 1)), .int (xs (i + 2)), .int (xs (i + 3)), .int (xs (i + 4))]) (rest := [.int r]) ⟨hx, hb, hml, hown, hts⟩ (cX3_rename_met l dC dI cI m0 m1 m2 m3 m4 m5 mlim mkpt msyn mcn mk ms mc me ch (xs (i + 1)) (xs (i + 2)) (xs (i + 3)) (xs (i + 4)) r k2 s2 c2 mk1 ms1 mc1 me1 ch1 o2) (cwV 4 hts (gInL (memV q_306 q_307 q_308 q_5 q_309)) rfl rfl rfl (by decide +kernel) ⟨(Nat.le_of_ble_eq_true rfl), (Nat.le_of_ble_eq_true rfl)⟩) (preWV (ci := 3) (q0 := 0) hK (va_Pr hP) (va_Dr hD) rfl rfl) rfl rfl hl.1 rfl (lv_room (Nat.le_of_ble_eq_true rfl)) dL_law_288 ⟨(Nat.le_of_ble_eq_true rfl), (Nat.le_of_ble_eq_true rfl)⟩) hS hP hD rfl rfl (fun H locs hP hD hS => ?_)
  refine lv_icmp_eq (tgt := 564) hx hb dL_law_291 (by decide) (fun _ => ?_) (fun q => absurd rfl q)
  refine lv_iinc (v := nI (i + 5)) (lv' := [(3, .int (nI (i + 5))), (0, .ref b), (1, .ref h0), (2, .ref m0)]) hx hb dL_law_564 hl (k := 0) rfl (nI_add i 5) (by decide) rfl (fun ls hl => ?_)
  refine lv_goto (tgt := 28) hx hb dL_law_567 (by decide) ?_
  exact cont lim k1 s1 tk1 ts1 tl1 th1 tt1 tv1 uk1 us1 ul1 uh1 ut1 uv1 ln1 rw1 mlim k2 s2 c2 mk1 ms1 mc1 me1 ch1 H locs ls I1 hP hD hS hl
