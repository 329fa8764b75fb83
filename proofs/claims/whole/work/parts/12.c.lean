theorem gX2_perform_123 : GoodIn wsX2_perform (wsV RX2 123 RX0 yX0_append wsX0_append) := gIn (memV q_112 q_113 q_114 q_4 q_115)
theorem gX2_perform_95 : GoodIn wsX2_perform (wsV RX2 95 RX0 yX0_length wsX0_length) := gIn (memV q_116 q_117 q_118 q_4 q_119)
theorem gX2_perform_98 : GoodIn wsX2_perform (wsV RX2 98 RX0 yX0_redo wsX0_redo) := gIn (memV q_120 q_121 q_122 q_4 q_123)
set_option maxHeartbeats 4000000 in
set_option maxRecDepth 100000 in
theorem cX2_perform_met (l : Launch) (dC : Nat → ClassId) (dI : Nat → Nat → Nat) (cI : ClassId) (h0 ht0 ht1 ht2 ht3 ht4 ht5 ht6 hu0 hu1 hu2 hu3 hu4 hu5 hu6 hg0 hg1 : Nat) (hlim : Int32) (hkpt : Int32) (hsyn : Int32) (htkd : Nat → Int32) (htsz : Nat → Int32) (htlk : Nat → Int32) (hthm : Nat → Int32) (httg : Nat → Int32) (htvl : Nat → Int32) (hukd : Nat → Int32) (husz : Nat → Int32) (hulk : Nat → Int32) (huhm : Nat → Int32) (hutg : Nat → Int32) (huvl : Nat → Int32) (hgln : Int32) (hgrw : Nat → Int32) (x1 : Int32) (x2 : Int32) (x3 : Int32) (x4 : Int32) (x5 : Int32) (x6 : Int32) (hkpt_o : Int32) (htkd_o : Nat → Int32) (htsz_o : Nat → Int32) (htlk_o : Nat → Int32) (hthm_o : Nat → Int32) (httg_o : Nat → Int32) (htvl_o : Nat → Int32) (hgln_o : Int32) (hgrw_o : Nat → Int32) (hf : fX2_perform x1 x2 x3 x4 x5 x6 hkpt htkd htsz htlk hthm httg htvl hgln hgrw = some (hkpt_o, htkd_o, htsz_o, htlk_o, hthm_o, httg_o, htvl_o, hgln_o, hgrw_o)) : Met l yX2_perform wsX2_perform ({ frames := 4, cells := 0, slots := 0, locals := 98 } : Room) (pcW [.ref h0, .int x1, .int x2, .int x3, .int x4, .int x5, .int x6] (dC, dI) vwCl [(cI, .int)] (wX2 cI h0 ht0 ht1 ht2 ht3 ht4 ht5 ht6 hu0 hu1 hu2 hu3 hu4 hu5 hu6 hg0 hg1 hlim hkpt hsyn htkd htsz htlk hthm httg htvl hukd husz hulk huhm hutg huvl hgln hgrw)) (qV (va_P (dC, dI) vwCl (wX2 cI h0 ht0 ht1 ht2 ht3 ht4 ht5 ht6 hu0 hu1 hu2 hu3 hu4 hu5 hu6 hg0 hg1 hlim hkpt_o hsyn htkd_o htsz_o htlk_o hthm_o httg_o htvl_o hukd husz hulk huhm hutg huvl hgln_o hgrw_o)) (inA [h0, ht0, ht1, ht2, ht3, ht4, ht5, ht6, hu0, hu1, hu2, hu3, hu4, hu5, hu6, hg0, hg1])) 0 0 (inA [h0, ht0, ht1, ht2, ht3, ht4, ht5, ht6, hu0, hu1, hu2, hu3, hu4, hu5, hu6, hg0, hg1]) := by
  refine Met.ofW (cc := cX2_perform) (maxL := 7) (ret := none) (by decide) rfl ?_
  intro p e s m args below meth c s₁ B hml hv
  obtain ⟨rfl, hP, hK, hD0⟩ := hv
  have hx := B.exec
  have hb := B.bytes
  have hr := B.returns
  have hts := atoms_spec (ws := wsX2_perform) B.pre
  have hown : s.vm.findClass RX2 = some m.cls := findClass_of_methodNamed B.named
  have hlocks := B.notSynchronized
  have hD := my_self (as := [h0, ht0, ht1, ht2, ht3, ht4, ht5, ht6, hu0, hu1, hu2, hu3, hu4, hu5, hu6, hg0, hg1]) hD0 rfl
  have hS : va_S (inA [h0, ht0, ht1, ht2, ht3, ht4, ht5, ht6, hu0, hu1, hu2, hu3, hu4, hu5, hu6, hg0, hg1]) s.heap s.heap [] := va_S.rf
  have hl := lv_entry ([.ref h0, .int x1, .int x2, .int x3, .int x4, .int x5, .int x6]) (n := 7) (Nat.le_of_ble_eq_true rfl)
  rw [lg_entry_eq]
  generalize (lg_sl ([.ref h0, .int x1, .int x2, .int x3, .int x4, .int x5, .int x6]) ++ List.replicate (7 - (lg_sl ([.ref h0, .int x1, .int x2, .int x3, .int x4, .int x5, .int x6])).length) Slot.unset).toArray = ls at hl ⊢
  have hl : lv_has ls 7 [(0, .ref h0), (1, .int x1), (2, .int x2), (3, .int x3), (4, .int x4), (5, .int x5), (6, .int x6)] := hl
  unfold fX2_perform at hf
  refine lv_aload_n hx hb dX2_perform_0 rfl (lv_at hl 0 rfl) ?_
  refine va_get (D := (dC, dI)) (ci := 2) (v := .ref hg0) (C := RX2) (T := TX2) (N := 6) hx hb hts (fun w h => mc (inX2 w h)) hown hK hP 0 rfl rfl 3 (by decide) (hts _ (mc q_57)) (fun _ h9 => h9) rfl dX2_perform_1 ?_
  refine lv_iload_n hx hb dX2_perform_4 rfl (lv_at hl 2 rfl) ?_
  refine lv_iload_n hx hb dX2_perform_5 rfl (lv_at hl 3 rfl) ?_
  refine lv_iload hx hb dX2_perform_6 (lv_at hl 4 rfl) ?_
  refine lv_iload hx hb dX2_perform_8 (lv_at hl 5 rfl) ?_
  refine lv_iload hx hb dX2_perform_10 (lv_at hl 6 rfl) ?_
  obtain ⟨hgln_12, hgrw_12, hc12, hf⟩ := bn2_e hf
  refine callWv (wc := (wX0 cI hg0 hg1 hgln hgrw)) (w1 := (wX0 cI hg0 hg1 hgln_12 hgrw_12)) (ws' := (wX2 cI h0 ht0 ht1 ht2 ht3 ht4 ht5 ht6 hu0 hu1 hu2 hu3 hu4 hu5 hu6 hg0 hg1 hlim hkpt hsyn htkd htsz htlk hthm httg htvl hukd husz hulk huhm hutg huvl hgln_12 hgrw_12)) (va_runV (As := [.int x2, .int x3, .int x4, .int x5, .int x6]) (rest := []) ⟨hx, hb, hml, hown, hts⟩ (cX0_append_met l dC dI cI hg0 hg1 hgln hgrw x2 x3 x4 x5 x6 hgln_12 hgrw_12 hc12) (cwV 5 hts gX2_perform_123 rfl rfl rfl (by decide +kernel) ⟨Nat.le_of_ble_eq_true rfl, Nat.le_of_ble_eq_true rfl⟩) (preWV (ci := 0) (q0 := 0) hK (hP.sub (ws' := (wX0 cI hg0 hg1 hgln hgrw)) [15, 16] rfl) (hD.sub (ws' := (wX0 cI hg0 hg1 hgln hgrw)) [15, 16] (by decide) rfl) rfl rfl) rfl rfl hl.1 rfl (lv_room (Nat.le_of_ble_eq_true rfl)) dX2_perform_12 ⟨Nat.le_of_ble_eq_true rfl, Nat.le_of_ble_eq_true rfl⟩) hS hP hD [15, 16] rfl rfl rfl rfl rfl (fun H locs hP hD hS => ?_)
  refine lv_aload_n hx hb dX2_perform_15 rfl (lv_at hl 0 rfl) ?_
  refine va_get (D := (dC, dI)) (ci := 2) (v := .ref hg0) (C := RX2) (T := TX2) (N := 6) hx hb hts (fun w h => mc (inX2 w h)) hown hK hP 0 rfl rfl 3 (by decide) (hts _ (mc q_57)) (fun _ h9 => h9) rfl dX2_perform_16 ?_
  refine lv_aload_n hx hb dX2_perform_19 rfl (lv_at hl 0 rfl) ?_
  refine va_get (D := (dC, dI)) (ci := 2) (v := .ref hg0) (C := RX2) (T := TX2) (N := 6) hx hb hts (fun w h => mc (inX2 w h)) hown hK hP 0 rfl rfl 3 (by decide) (hts _ (mc q_57)) (fun _ h9 => h9) rfl dX2_perform_20 ?_
  obtain ⟨r23, hc23, hf⟩ := bn1_e hf
  refine callRi (va_runV (As := []) (rest := [.ref hg0]) ⟨hx, hb, hml, hown, hts⟩ (cX0_length_met l dC dI cI hg0 hg1 hgln_12 hgrw_12 r23 hc23) (cwV 0 hts gX2_perform_95 rfl rfl rfl (by decide +kernel) ⟨Nat.le_of_ble_eq_true rfl, Nat.le_of_ble_eq_true rfl⟩) (preRV (ci := 0) (q0 := 0) hK (hP.sub (ws' := (wX0 cI hg0 hg1 hgln_12 hgrw_12)) [15, 16] rfl) rfl rfl) rfl rfl hl.1 rfl (lv_room (Nat.le_of_ble_eq_true rfl)) dX2_perform_23 ⟨Nat.le_of_ble_eq_true rfl, Nat.le_of_ble_eq_true rfl⟩) hS hP (fun H locs hP hS => ?_)
  refine lv_iconst (v := 1) hx hb dX2_perform_26 (by decide) ?_
  obtain ⟨v27, ev27, hf⟩ := slet_e hf
  refine lv_isub hx hb dX2_perform_27 ?_
  refine rw_nm ev27 ?_
  refine lv_aload_n hx hb dX2_perform_28 rfl (lv_at hl 0 rfl) ?_
  refine va_get (D := (dC, dI)) (ci := 2) (v := .ref ht0) (C := RX2) (T := TX2) (N := 6) hx hb hts (fun w h => mc (inX2 w h)) hown hK hP 0 rfl rfl 1 (by decide) (hts _ (mc q_55)) (fun _ h9 => h9) rfl dX2_perform_29 ?_
  obtain ⟨htkd_32, htsz_32, htlk_32, hthm_32, httg_32, htvl_32, hc32, hf⟩ := bn6_e hf
  refine callWv (wc := (wX0X1a cI hg0 hg1 ht0 ht1 ht2 ht3 ht4 ht5 ht6 hgln_12 hgrw_12 htkd htsz htlk hthm httg htvl)) (w1 := (wX0X1a cI hg0 hg1 ht0 ht1 ht2 ht3 ht4 ht5 ht6 hgln_12 hgrw_12 htkd_32 htsz_32 htlk_32 hthm_32 httg_32 htvl_32)) (ws' := (wX2 cI h0 ht0 ht1 ht2 ht3 ht4 ht5 ht6 hu0 hu1 hu2 hu3 hu4 hu5 hu6 hg0 hg1 hlim hkpt hsyn htkd_32 htsz_32 htlk_32 hthm_32 httg_32 htvl_32 hukd husz hulk huhm hutg huvl hgln_12 hgrw_12)) (va_runV (As := [.int v27, .ref ht0]) (rest := []) ⟨hx, hb, hml, hown, hts⟩ (cX0_redo_met l dC dI cI hg0 hg1 ht0 ht1 ht2 ht3 ht4 ht5 ht6 hgln_12 hgrw_12 htkd htsz htlk hthm httg htvl v27 htkd_32 htsz_32 htlk_32 hthm_32 httg_32 htvl_32 hc32) (cwV 2 hts gX2_perform_98 rfl rfl rfl (by decide +kernel) ⟨Nat.le_of_ble_eq_true rfl, Nat.le_of_ble_eq_true rfl⟩) (preWV (ci := 0) (q0 := 0) hK (hP.sub (ws' := (wX0X1a cI hg0 hg1 ht0 ht1 ht2 ht3 ht4 ht5 ht6 hgln_12 hgrw_12 htkd htsz htlk hthm httg htvl)) [15, 16, 1, 2, 3, 4, 5, 6, 7] rfl) (hD.sub (ws' := (wX0X1a cI hg0 hg1 ht0 ht1 ht2 ht3 ht4 ht5 ht6 hgln_12 hgrw_12 htkd htsz htlk hthm httg htvl)) [15, 16, 1, 2, 3, 4, 5, 6, 7] (by decide) rfl) rfl rfl) rfl rfl hl.1 rfl (lv_room (Nat.le_of_ble_eq_true rfl)) dX2_perform_32 ⟨Nat.le_of_ble_eq_true rfl, Nat.le_of_ble_eq_true rfl⟩) hS hP hD [15, 16, 1, 2, 3, 4, 5, 6, 7] rfl rfl rfl rfl rfl (fun H locs hP hD hS => ?_)
  refine lv_aload_n hx hb dX2_perform_35 rfl (lv_at hl 0 rfl) ?_
  refine lv_dup hx hb dX2_perform_36 rfl ?_
  refine va_get (D := (dC, dI)) (ci := 2) (v := .int hkpt) (C := RX2) (T := TX2) (N := 6) hx hb hts (fun w h => mc (inX2 w h)) hown hK hP 0 rfl rfl 4 (by decide) (hts _ (mc q_58)) (fun _ h9 => h9) rfl dX2_perform_37 ?_
  refine lv_iload_n hx hb dX2_perform_40 rfl (lv_at hl 1 rfl) ?_
  obtain ⟨v41, ev41, hf⟩ := slet_e hf
  refine lv_iadd hx hb dX2_perform_41 ?_
  refine rw_nm ev41 ?_
  refine rw_put (D := (dC, dI)) (ci := 2) (v := .int v41) (ty := .int) (C := RX2) (T := TX2) (N := 6) (ws' := (wX2 cI h0 ht0 ht1 ht2 ht3 ht4 ht5 ht6 hu0 hu1 hu2 hu3 hu4 hu5 hu6 hg0 hg1 hlim v41 hsyn htkd_32 htsz_32 htlk_32 hthm_32 httg_32 htvl_32 hukd husz hulk huhm hutg huvl hgln_12 hgrw_12)) hx hb hts (fun w h => mc (inX2 w h)) tyX2 tyX2_ok nmX2 hown hK hP hD hS 0 rfl rfl 4 (by decide) (hts _ (mc q_58)) (fun _ h9 => h9) rfl (by decide +kernel) rfl rfl (Nat.le_of_ble_eq_true rfl) rfl dX2_perform_42 (fun H locs hP hD hS => ?_)
  cases hf
  exact retV hx hb hr hlocks hP hS dX2_perform_45
