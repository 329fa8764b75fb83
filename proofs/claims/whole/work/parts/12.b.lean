theorem gX2_countedSync_102 : GoodIn wsX2_countedSync (wsV RX2 102 RX1 yX1_copyFrom wsX1_copyFrom) := gIn (memV q_95 q_96 q_97 q_3 q_98)
theorem gX2_countedSync_106 : GoodIn wsX2_countedSync (wsV RX2 106 RX2 yX2_startAfresh wsX2_startAfresh) := gIn (memV q_102 q_103 q_346 q_1 q_104)
set_option maxHeartbeats 4000000 in
set_option maxRecDepth 100000 in
theorem cX2_countedSync_met (l : Launch) (dC : Nat → ClassId) (dI : Nat → Nat → Nat) (cI : ClassId) (h0 ht0 ht1 ht2 ht3 ht4 ht5 ht6 hu0 hu1 hu2 hu3 hu4 hu5 hu6 hg0 hg1 : Nat) (hlim : Int32) (hkpt : Int32) (hsyn : Int32) (htkd : Nat → Int32) (htsz : Nat → Int32) (htlk : Nat → Int32) (hthm : Nat → Int32) (httg : Nat → Int32) (htvl : Nat → Int32) (hukd : Nat → Int32) (husz : Nat → Int32) (hulk : Nat → Int32) (huhm : Nat → Int32) (hutg : Nat → Int32) (huvl : Nat → Int32) (hgln : Int32) (hgrw : Nat → Int32) (hkpt_o : Int32) (hsyn_o : Int32) (hukd_o : Nat → Int32) (husz_o : Nat → Int32) (hulk_o : Nat → Int32) (huhm_o : Nat → Int32) (hutg_o : Nat → Int32) (huvl_o : Nat → Int32) (hgln_o : Int32) (hf : fX2_countedSync htkd htsz htlk hthm httg htvl hkpt hsyn hukd husz hulk huhm hutg huvl hgln = some (hkpt_o, hsyn_o, hukd_o, husz_o, hulk_o, huhm_o, hutg_o, huvl_o, hgln_o)) : Met l yX2_countedSync wsX2_countedSync ({ frames := 4, cells := 0, slots := 0, locals := 84 } : Room) (pcW [.ref h0] (dC, dI) vwCl [(cI, .int)] (wX2 cI h0 ht0 ht1 ht2 ht3 ht4 ht5 ht6 hu0 hu1 hu2 hu3 hu4 hu5 hu6 hg0 hg1 hlim hkpt hsyn htkd htsz htlk hthm httg htvl hukd husz hulk huhm hutg huvl hgln hgrw)) (qV (va_P (dC, dI) vwCl (wX2 cI h0 ht0 ht1 ht2 ht3 ht4 ht5 ht6 hu0 hu1 hu2 hu3 hu4 hu5 hu6 hg0 hg1 hlim hkpt_o hsyn_o htkd htsz htlk hthm httg htvl hukd_o husz_o hulk_o huhm_o hutg_o huvl_o hgln_o hgrw)) (inA [h0, ht0, ht1, ht2, ht3, ht4, ht5, ht6, hu0, hu1, hu2, hu3, hu4, hu5, hu6, hg0, hg1])) 0 0 (inA [h0, ht0, ht1, ht2, ht3, ht4, ht5, ht6, hu0, hu1, hu2, hu3, hu4, hu5, hu6, hg0, hg1]) := by
  refine Met.ofW (cc := cX2_countedSync) (maxL := 1) (ret := none) (by decide) rfl ?_
  intro p e s m args below meth c s₁ B hml hv
  obtain ⟨rfl, hP, hK, hD0⟩ := hv
  have hx := B.exec
  have hb := B.bytes
  have hr := B.returns
  have hts := atoms_spec (ws := wsX2_countedSync) B.pre
  have hown : s.vm.findClass RX2 = some m.cls := findClass_of_methodNamed B.named
  have hlocks := B.notSynchronized
  have hD := my_self (as := [h0, ht0, ht1, ht2, ht3, ht4, ht5, ht6, hu0, hu1, hu2, hu3, hu4, hu5, hu6, hg0, hg1]) hD0 rfl
  have hS : va_S (inA [h0, ht0, ht1, ht2, ht3, ht4, ht5, ht6, hu0, hu1, hu2, hu3, hu4, hu5, hu6, hg0, hg1]) s.heap s.heap [] := va_S.rf
  have hl := lv_entry ([.ref h0]) (n := 1) (Nat.le_of_ble_eq_true rfl)
  rw [lg_entry_eq]
  generalize (lg_sl ([.ref h0]) ++ List.replicate (1 - (lg_sl ([.ref h0])).length) Slot.unset).toArray = ls at hl ⊢
  have hl : lv_has ls 1 [(0, .ref h0)] := hl
  unfold fX2_countedSync at hf
  refine lv_aload_n hx hb dX2_countedSync_0 rfl (lv_at hl 0 rfl) ?_
  refine va_get (D := (dC, dI)) (ci := 2) (v := .ref hu0) (C := RX2) (T := TX2) (N := 6) hx hb hts (fun w h => mc (inX2 w h)) hown hK hP 0 rfl rfl 2 (by decide) (hts _ (mc q_56)) (fun _ h9 => h9) rfl dX2_countedSync_1 ?_
  refine lv_aload_n hx hb dX2_countedSync_4 rfl (lv_at hl 0 rfl) ?_
  refine va_get (D := (dC, dI)) (ci := 2) (v := .ref ht0) (C := RX2) (T := TX2) (N := 6) hx hb hts (fun w h => mc (inX2 w h)) hown hK hP 0 rfl rfl 1 (by decide) (hts _ (mc q_55)) (fun _ h9 => h9) rfl dX2_countedSync_5 ?_
  obtain ⟨hukd_8, husz_8, hulk_8, huhm_8, hutg_8, huvl_8, hc8, hf⟩ := bn6_e hf
  refine callWv (wc := (wX1X1b cI hu0 hu1 hu2 hu3 hu4 hu5 hu6 ht0 ht1 ht2 ht3 ht4 ht5 ht6 hukd husz hulk huhm hutg huvl htkd htsz htlk hthm httg htvl)) (w1 := (wX1X1b cI hu0 hu1 hu2 hu3 hu4 hu5 hu6 ht0 ht1 ht2 ht3 ht4 ht5 ht6 hukd_8 husz_8 hulk_8 huhm_8 hutg_8 huvl_8 htkd htsz htlk hthm httg htvl)) (ws' := (wX2 cI h0 ht0 ht1 ht2 ht3 ht4 ht5 ht6 hu0 hu1 hu2 hu3 hu4 hu5 hu6 hg0 hg1 hlim hkpt hsyn htkd htsz htlk hthm httg htvl hukd_8 husz_8 hulk_8 huhm_8 hutg_8 huvl_8 hgln hgrw)) (va_runV (As := [.ref ht0]) (rest := []) ⟨hx, hb, hml, hown, hts⟩ (cX1_copyFrom_met l dC dI cI hu0 hu1 hu2 hu3 hu4 hu5 hu6 ht0 ht1 ht2 ht3 ht4 ht5 ht6 hukd husz hulk huhm hutg huvl htkd htsz htlk hthm httg htvl hukd_8 husz_8 hulk_8 huhm_8 hutg_8 huvl_8 hc8) (cwV 1 hts gX2_countedSync_102 rfl rfl rfl (by decide +kernel) ⟨Nat.le_of_ble_eq_true rfl, Nat.le_of_ble_eq_true rfl⟩) (preWV (ci := 1) (q0 := 0) hK (hP.sub (ws' := (wX1X1b cI hu0 hu1 hu2 hu3 hu4 hu5 hu6 ht0 ht1 ht2 ht3 ht4 ht5 ht6 hukd husz hulk huhm hutg huvl htkd htsz htlk hthm httg htvl)) [8, 9, 10, 11, 12, 13, 14, 1, 2, 3, 4, 5, 6, 7] rfl) (hD.sub (ws' := (wX1X1b cI hu0 hu1 hu2 hu3 hu4 hu5 hu6 ht0 ht1 ht2 ht3 ht4 ht5 ht6 hukd husz hulk huhm hutg huvl htkd htsz htlk hthm httg htvl)) [8, 9, 10, 11, 12, 13, 14, 1, 2, 3, 4, 5, 6, 7] (by decide) rfl) rfl rfl) rfl rfl hl.1 rfl (lv_room (Nat.le_of_ble_eq_true rfl)) dX2_countedSync_8 ⟨Nat.le_of_ble_eq_true rfl, Nat.le_of_ble_eq_true rfl⟩) hS hP hD [8, 9, 10, 11, 12, 13, 14, 1, 2, 3, 4, 5, 6, 7] rfl rfl rfl rfl rfl (fun H locs hP hD hS => ?_)
  refine lv_aload_n hx hb dX2_countedSync_11 rfl (lv_at hl 0 rfl) ?_
  obtain ⟨hkpt_12, hgln_12, hc12, hf⟩ := bn2_e hf
  refine callVv (w1 := (wX2 cI h0 ht0 ht1 ht2 ht3 ht4 ht5 ht6 hu0 hu1 hu2 hu3 hu4 hu5 hu6 hg0 hg1 hlim hkpt_12 hsyn htkd htsz htlk hthm httg htvl hukd_8 husz_8 hulk_8 huhm_8 hutg_8 huvl_8 hgln_12 hgrw)) (va_runV (As := []) (rest := []) ⟨hx, hb, hml, hown, hts⟩ (cX2_startAfresh_met l dC dI cI h0 ht0 ht1 ht2 ht3 ht4 ht5 ht6 hu0 hu1 hu2 hu3 hu4 hu5 hu6 hg0 hg1 hlim hkpt hsyn htkd htsz htlk hthm httg htvl hukd_8 husz_8 hulk_8 huhm_8 hutg_8 huvl_8 hgln hgrw hkpt_12 hgln_12 hc12) (cwV 0 hts gX2_countedSync_106 rfl rfl rfl (by decide +kernel) ⟨Nat.le_of_ble_eq_true rfl, Nat.le_of_ble_eq_true rfl⟩) (preWV (ci := 2) (q0 := 0) hK hP hD rfl rfl) rfl rfl hl.1 rfl (lv_room (Nat.le_of_ble_eq_true rfl)) dX2_countedSync_12 ⟨Nat.le_of_ble_eq_true rfl, Nat.le_of_ble_eq_true rfl⟩) hS hD rfl rfl (fun H locs hP hD hS => ?_)
  refine lv_aload_n hx hb dX2_countedSync_15 rfl (lv_at hl 0 rfl) ?_
  refine lv_dup hx hb dX2_countedSync_16 rfl ?_
  refine va_get (D := (dC, dI)) (ci := 2) (v := .int hsyn) (C := RX2) (T := TX2) (N := 6) hx hb hts (fun w h => mc (inX2 w h)) hown hK hP 0 rfl rfl 5 (by decide) (hts _ (mc q_59)) (fun _ h9 => h9) rfl dX2_countedSync_17 ?_
  refine lv_iconst (v := 1) hx hb dX2_countedSync_20 (by decide) ?_
  obtain ⟨v21, ev21, hf⟩ := slet_e hf
  refine lv_iadd hx hb dX2_countedSync_21 ?_
  refine rw_nm ev21 ?_
  refine rw_put (D := (dC, dI)) (ci := 2) (v := .int v21) (ty := .int) (C := RX2) (T := TX2) (N := 6) (ws' := (wX2 cI h0 ht0 ht1 ht2 ht3 ht4 ht5 ht6 hu0 hu1 hu2 hu3 hu4 hu5 hu6 hg0 hg1 hlim hkpt_12 v21 htkd htsz htlk hthm httg htvl hukd_8 husz_8 hulk_8 huhm_8 hutg_8 huvl_8 hgln_12 hgrw)) hx hb hts (fun w h => mc (inX2 w h)) tyX2 tyX2_ok nmX2 hown hK hP hD hS 0 rfl rfl 5 (by decide) (hts _ (mc q_59)) (fun _ h9 => h9) rfl (by decide +kernel) rfl rfl (Nat.le_of_ble_eq_true rfl) rfl dX2_countedSync_22 (fun H locs hP hD hS => ?_)
  cases hf
  exact retV hx hb hr hlocks hP hS dX2_countedSync_25
