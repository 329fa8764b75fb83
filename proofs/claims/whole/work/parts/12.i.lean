theorem gX2_sync_92 : GoodIn wsX2_sync (wsV RX2 92 RX2 yX2_countedSync wsX2_countedSync) := gIn (memV q_92 q_93 q_345 q_1 q_94)
set_option maxHeartbeats 4000000 in
set_option maxRecDepth 100000 in
theorem cX2_sync_met (l : Launch) (dC : Nat → ClassId) (dI : Nat → Nat → Nat) (cI : ClassId) (h0 ht0 ht1 ht2 ht3 ht4 ht5 ht6 hu0 hu1 hu2 hu3 hu4 hu5 hu6 hg0 hg1 : Nat) (hlim : Int32) (hkpt : Int32) (hsyn : Int32) (htkd : Nat → Int32) (htsz : Nat → Int32) (htlk : Nat → Int32) (hthm : Nat → Int32) (httg : Nat → Int32) (htvl : Nat → Int32) (hukd : Nat → Int32) (husz : Nat → Int32) (hulk : Nat → Int32) (huhm : Nat → Int32) (hutg : Nat → Int32) (huvl : Nat → Int32) (hgln : Int32) (hgrw : Nat → Int32) (r : Int32) (hkpt_o : Int32) (hsyn_o : Int32) (hukd_o : Nat → Int32) (husz_o : Nat → Int32) (hulk_o : Nat → Int32) (huhm_o : Nat → Int32) (hutg_o : Nat → Int32) (huvl_o : Nat → Int32) (hgln_o : Int32) (hf : fX2_sync htkd htsz htlk hthm httg htvl hkpt hsyn hukd husz hulk huhm hutg huvl hgln = some (r, hkpt_o, hsyn_o, hukd_o, husz_o, hulk_o, huhm_o, hutg_o, huvl_o, hgln_o)) : Met l yX2_sync wsX2_sync ({ frames := 5, cells := 0, slots := 0, locals := 104 } : Room) (pcW [.ref h0] (dC, dI) vwCl [(cI, .int)] (wX2 cI h0 ht0 ht1 ht2 ht3 ht4 ht5 ht6 hu0 hu1 hu2 hu3 hu4 hu5 hu6 hg0 hg1 hlim hkpt hsyn htkd htsz htlk hthm httg htvl hukd husz hulk huhm hutg huvl hgln hgrw)) (qI r (va_P (dC, dI) vwCl (wX2 cI h0 ht0 ht1 ht2 ht3 ht4 ht5 ht6 hu0 hu1 hu2 hu3 hu4 hu5 hu6 hg0 hg1 hlim hkpt_o hsyn_o htkd htsz htlk hthm httg htvl hukd_o husz_o hulk_o huhm_o hutg_o huvl_o hgln_o hgrw)) (inA [h0, ht0, ht1, ht2, ht3, ht4, ht5, ht6, hu0, hu1, hu2, hu3, hu4, hu5, hu6, hg0, hg1])) 0 0 (inA [h0, ht0, ht1, ht2, ht3, ht4, ht5, ht6, hu0, hu1, hu2, hu3, hu4, hu5, hu6, hg0, hg1]) := by
  refine Met.ofW (cc := cX2_sync) (maxL := 1) (ret := (some .int)) (by decide) rfl ?_
  intro p e s m args below meth c s₁ B hml hv
  obtain ⟨rfl, hP, hK, hD0⟩ := hv
  have hx := B.exec
  have hb := B.bytes
  have hr := B.returns
  have hts := atoms_spec (ws := wsX2_sync) B.pre
  have hown : s.vm.findClass RX2 = some m.cls := findClass_of_methodNamed B.named
  have hlocks := B.notSynchronized
  have hD := my_self (as := [h0, ht0, ht1, ht2, ht3, ht4, ht5, ht6, hu0, hu1, hu2, hu3, hu4, hu5, hu6, hg0, hg1]) hD0 rfl
  have hS : va_S (inA [h0, ht0, ht1, ht2, ht3, ht4, ht5, ht6, hu0, hu1, hu2, hu3, hu4, hu5, hu6, hg0, hg1]) s.heap s.heap [] := va_S.rf
  have hl := lv_entry ([.ref h0]) (n := 1) (Nat.le_of_ble_eq_true rfl)
  rw [lg_entry_eq]
  generalize (lg_sl ([.ref h0]) ++ List.replicate (1 - (lg_sl ([.ref h0])).length) Slot.unset).toArray = ls at hl ⊢
  have hl : lv_has ls 1 [(0, .ref h0)] := hl
  unfold fX2_sync at hf
  refine lv_aload_n hx hb dX2_sync_0 rfl (lv_at hl 0 rfl) ?_
  obtain ⟨hkpt_1, hsyn_1, hukd_1, husz_1, hulk_1, huhm_1, hutg_1, huvl_1, hgln_1, hc1, hf⟩ := bn9_e hf
  refine callVv (w1 := (wX2 cI h0 ht0 ht1 ht2 ht3 ht4 ht5 ht6 hu0 hu1 hu2 hu3 hu4 hu5 hu6 hg0 hg1 hlim hkpt_1 hsyn_1 htkd htsz htlk hthm httg htvl hukd_1 husz_1 hulk_1 huhm_1 hutg_1 huvl_1 hgln_1 hgrw)) (va_runV (As := []) (rest := []) ⟨hx, hb, hml, hown, hts⟩ (cX2_countedSync_met l dC dI cI h0 ht0 ht1 ht2 ht3 ht4 ht5 ht6 hu0 hu1 hu2 hu3 hu4 hu5 hu6 hg0 hg1 hlim hkpt hsyn htkd htsz htlk hthm httg htvl hukd husz hulk huhm hutg huvl hgln hgrw hkpt_1 hsyn_1 hukd_1 husz_1 hulk_1 huhm_1 hutg_1 huvl_1 hgln_1 hc1) (cwV 0 hts gX2_sync_92 rfl rfl rfl (by decide +kernel) ⟨Nat.le_of_ble_eq_true rfl, Nat.le_of_ble_eq_true rfl⟩) (preWV (ci := 2) (q0 := 0) hK hP hD rfl rfl) rfl rfl hl.1 rfl (lv_room (Nat.le_of_ble_eq_true rfl)) dX2_sync_1 ⟨Nat.le_of_ble_eq_true rfl, Nat.le_of_ble_eq_true rfl⟩) hS hD rfl rfl (fun H locs hP hD hS => ?_)
  refine lv_aload_n hx hb dX2_sync_4 rfl (lv_at hl 0 rfl) ?_
  refine va_get (D := (dC, dI)) (ci := 2) (v := .int hkpt_1) (C := RX2) (T := TX2) (N := 6) hx hb hts (fun w h => mc (inX2 w h)) hown hK hP 0 rfl rfl 4 (by decide) (hts _ (mc q_58)) (fun _ h9 => h9) rfl dX2_sync_5 ?_
  cases hf
  exact retI hx hb hr hlocks hP hS dX2_sync_8
theorem gX2_crash_95 : GoodIn wsX2_crash (wsV RX2 95 RX0 yX0_length wsX0_length) := gIn (memV q_116 q_117 q_118 q_4 q_119)
theorem gX2_crash_102 : GoodIn wsX2_crash (wsV RX2 102 RX1 yX1_copyFrom wsX1_copyFrom) := gIn (memV q_95 q_96 q_97 q_3 q_98)
theorem gX2_crash_106 : GoodIn wsX2_crash (wsV RX2 106 RX2 yX2_startAfresh wsX2_startAfresh) := gIn (memV q_102 q_103 q_346 q_1 q_104)
theorem gX2_crash_98 : GoodIn wsX2_crash (wsV RX2 98 RX0 yX0_redo wsX0_redo) := gIn (memV q_120 q_121 q_122 q_4 q_123)
set_option maxHeartbeats 4000000 in
set_option maxRecDepth 100000 in
theorem wbX2_crash_18 {p : Program} {l : Launch} {e : Env} {s : State} {m : MethodId} {args : Array Value} {below : List Frame} {meth : Method} {c : Code} {dC : Nat → ClassId} {dI : Nat → Nat → Nat} {cI : ClassId} (hx : p.tables.exec = Jvm.exec) (hb : c.code = cX2_crash) (hml : c.maxLocals = 4) (hown : s.vm.findClass RX2 = some m.cls) (hts : ∀ w ∈ wsX2_crash, w.before args s = true) (hr : meth.sig.returnType = (some .int)) (hlocks : meth.locks = false) (hK : va_K (dC, dI) vwCl [(cI, .int)] s) (h0 ht0 ht1 ht2 ht3 ht4 ht5 ht6 hu0 hu1 hu2 hu3 hu4 hu5 hu6 hg0 hg1 : Nat) (hlim : Int32) (hsyn : Int32) (hgrw : Nat → Int32) (r : Int32) (hkpt_o : Int32) (htkd_o : Nat → Int32) (htsz_o : Nat → Int32) (htlk_o : Nat → Int32) (hthm_o : Nat → Int32) (httg_o : Nat → Int32) (htvl_o : Nat → Int32) (hukd_o : Nat → Int32) (husz_o : Nat → Int32) (hulk_o : Nat → Int32) (huhm_o : Nat → Int32) (hutg_o : Nat → Int32) (huvl_o : Nat → Int32) (hgln_o : Int32) : ∀ (n : Nat), ∀ (x2 : Int32) (x3 : Int32) (hkpt : Int32) (htkd : Nat → Int32) (htsz : Nat → Int32) (htlk : Nat → Int32) (hthm : Nat → Int32) (httg : Nat → Int32) (htvl : Nat → Int32) (hukd : Nat → Int32) (husz : Nat → Int32) (hulk : Nat → Int32) (huhm : Nat → Int32) (hutg : Nat → Int32) (huvl : Nat → Int32) (hgln : Int32) (H : Heap) (locs : List Loc), va_P (dC, dI) vwCl (wX2 cI h0 ht0 ht1 ht2 ht3 ht4 ht5 ht6 hu0 hu1 hu2 hu3 hu4 hu5 hu6 hg0 hg1 hlim hkpt hsyn htkd htsz htlk hthm httg htvl hukd husz hulk huhm hutg huvl hgln hgrw) H → va_D (inA [h0, ht0, ht1, ht2, ht3, ht4, ht5, ht6, hu0, hu1, hu2, hu3, hu4, hu5, hu6, hg0, hg1]) (wX2 cI h0 ht0 ht1 ht2 ht3 ht4 ht5 ht6 hu0 hu1 hu2 hu3 hu4 hu5 hu6 hg0 hg1 hlim hkpt hsyn htkd htsz htlk hthm httg htvl hukd husz hulk huhm hutg huvl hgln hgrw) → va_S (inA [h0, ht0, ht1, ht2, ht3, ht4, ht5, ht6, hu0, hu1, hu2, hu3, hu4, hu5, hu6, hg0, hg1]) s.heap H locs → ∀ (ls : Array Slot), lv_has ls 4 [(0, .ref h0), (2, .int x2), (3, .int x3)] → fX2_crash_b18 hgrw n x2 x3 hkpt htkd htsz htlk hthm httg htvl hukd husz hulk huhm hutg huvl hgln = some (r, hkpt_o, htkd_o, htsz_o, htlk_o, hthm_o, httg_o, htvl_o, hukd_o, husz_o, hulk_o, huhm_o, hutg_o, huvl_o, hgln_o) → W p l e ({ frames := 4, cells := 0, slots := 0, locals := 98 } : Room) s m args below meth c H locs 0 0 (MQ below (qI r (va_P (dC, dI) vwCl (wX2 cI h0 ht0 ht1 ht2 ht3 ht4 ht5 ht6 hu0 hu1 hu2 hu3 hu4 hu5 hu6 hg0 hg1 hlim hkpt_o hsyn htkd_o htsz_o htlk_o hthm_o httg_o htvl_o hukd_o husz_o hulk_o huhm_o hutg_o huvl_o hgln_o hgrw)) (inA [h0, ht0, ht1, ht2, ht3, ht4, ht5, ht6, hu0, hu1, hu2, hu3, hu4, hu5, hu6, hg0, hg1])) args s 0 0 (inA [h0, ht0, ht1, ht2, ht3, ht4, ht5, ht6, hu0, hu1, hu2, hu3, hu4, hu5, hu6, hg0, hg1])) (F0 m 18 ls []) := by
  intro n
  induction n with
  | zero =>
    intro x2 x3 hkpt htkd htsz htlk hthm httg htvl hukd husz hulk huhm hutg huvl hgln H locs hP hD hS ls hl hf
    cases hf
  | succ n ih =>
    intro x2 x3 hkpt htkd htsz htlk hthm httg htvl hukd husz hulk huhm hutg huvl hgln H locs hP hD hS ls hl hf
    rw [fX2_crash_b18] at hf
    refine lv_iload_n hx hb dX2_crash_18 rfl (lv_at hl 2 rfl) ?_
    refine lv_iload_n hx hb dX2_crash_19 rfl (lv_at hl 1 rfl) ?_
    refine lv_icmp_ge (tgt := 41) hx hb dX2_crash_20 (by decide) (fun c20 => ?_) (fun c20 => ?_)
    · have hf := it_t c20 hf
      refine lv_aload_n hx hb dX2_crash_41 rfl (lv_at hl 0 rfl) ?_
      refine va_get (D := (dC, dI)) (ci := 2) (v := .ref ht0) (C := RX2) (T := TX2) (N := 6) hx hb hts (fun w h => mc (inX2 w h)) hown hK hP 0 rfl rfl 1 (by decide) (hts _ (mc q_55)) (fun _ h9 => h9) rfl dX2_crash_42 ?_
      refine lv_aload_n hx hb dX2_crash_45 rfl (lv_at hl 0 rfl) ?_
      refine va_get (D := (dC, dI)) (ci := 2) (v := .ref hu0) (C := RX2) (T := TX2) (N := 6) hx hb hts (fun w h => mc (inX2 w h)) hown hK hP 0 rfl rfl 2 (by decide) (hts _ (mc q_56)) (fun _ h9 => h9) rfl dX2_crash_46 ?_
      obtain ⟨htkd_49, htsz_49, htlk_49, hthm_49, httg_49, htvl_49, hc49, hf⟩ := bn6_e hf
      refine callWv (wc := (wX1X1b cI ht0 ht1 ht2 ht3 ht4 ht5 ht6 hu0 hu1 hu2 hu3 hu4 hu5 hu6 htkd htsz htlk hthm httg htvl hukd husz hulk huhm hutg huvl)) (w1 := (wX1X1b cI ht0 ht1 ht2 ht3 ht4 ht5 ht6 hu0 hu1 hu2 hu3 hu4 hu5 hu6 htkd_49 htsz_49 htlk_49 hthm_49 httg_49 htvl_49 hukd husz hulk huhm hutg huvl)) (ws' := (wX2 cI h0 ht0 ht1 ht2 ht3 ht4 ht5 ht6 hu0 hu1 hu2 hu3 hu4 hu5 hu6 hg0 hg1 hlim hkpt hsyn htkd_49 htsz_49 htlk_49 hthm_49 httg_49 htvl_49 hukd husz hulk huhm hutg huvl hgln hgrw)) (va_runV (As := [.ref hu0]) (rest := []) ⟨hx, hb, hml, hown, hts⟩ (cX1_copyFrom_met l dC dI cI ht0 ht1 ht2 ht3 ht4 ht5 ht6 hu0 hu1 hu2 hu3 hu4 hu5 hu6 htkd htsz htlk hthm httg htvl hukd husz hulk huhm hutg huvl htkd_49 htsz_49 htlk_49 hthm_49 httg_49 htvl_49 hc49) (cwV 1 hts gX2_crash_102 rfl rfl rfl (by decide +kernel) ⟨Nat.le_of_ble_eq_true rfl, Nat.le_of_ble_eq_true rfl⟩) (preWV (ci := 1) (q0 := 0) hK (hP.sub (ws' := (wX1X1b cI ht0 ht1 ht2 ht3 ht4 ht5 ht6 hu0 hu1 hu2 hu3 hu4 hu5 hu6 htkd htsz htlk hthm httg htvl hukd husz hulk huhm hutg huvl)) [1, 2, 3, 4, 5, 6, 7, 8, 9, 10, 11, 12, 13, 14] rfl) (hD.sub (ws' := (wX1X1b cI ht0 ht1 ht2 ht3 ht4 ht5 ht6 hu0 hu1 hu2 hu3 hu4 hu5 hu6 htkd htsz htlk hthm httg htvl hukd husz hulk huhm hutg huvl)) [1, 2, 3, 4, 5, 6, 7, 8, 9, 10, 11, 12, 13, 14] (by decide) rfl) rfl rfl) rfl rfl hl.1 rfl (lv_room (Nat.le_of_ble_eq_true rfl)) dX2_crash_49 ⟨Nat.le_of_ble_eq_true rfl, Nat.le_of_ble_eq_true rfl⟩) hS hP hD [1, 2, 3, 4, 5, 6, 7, 8, 9, 10, 11, 12, 13, 14] rfl rfl rfl rfl rfl (fun H locs hP hD hS => ?_)
      refine lv_aload_n hx hb dX2_crash_52 rfl (lv_at hl 0 rfl) ?_
      obtain ⟨hkpt_53, hgln_53, hc53, hf⟩ := bn2_e hf
      refine callVv (w1 := (wX2 cI h0 ht0 ht1 ht2 ht3 ht4 ht5 ht6 hu0 hu1 hu2 hu3 hu4 hu5 hu6 hg0 hg1 hlim hkpt_53 hsyn htkd_49 htsz_49 htlk_49 hthm_49 httg_49 htvl_49 hukd husz hulk huhm hutg huvl hgln_53 hgrw)) (va_runV (As := []) (rest := []) ⟨hx, hb, hml, hown, hts⟩ (cX2_startAfresh_met l dC dI cI h0 ht0 ht1 ht2 ht3 ht4 ht5 ht6 hu0 hu1 hu2 hu3 hu4 hu5 hu6 hg0 hg1 hlim hkpt hsyn htkd_49 htsz_49 htlk_49 hthm_49 httg_49 htvl_49 hukd husz hulk huhm hutg huvl hgln hgrw hkpt_53 hgln_53 hc53) (cwV 0 hts gX2_crash_106 rfl rfl rfl (by decide +kernel) ⟨Nat.le_of_ble_eq_true rfl, Nat.le_of_ble_eq_true rfl⟩) (preWV (ci := 2) (q0 := 0) hK hP hD rfl rfl) rfl rfl hl.1 rfl (lv_room (Nat.le_of_ble_eq_true rfl)) dX2_crash_53 ⟨Nat.le_of_ble_eq_true rfl, Nat.le_of_ble_eq_true rfl⟩) hS hD rfl rfl (fun H locs hP hD hS => ?_)
      refine lv_iload_n hx hb dX2_crash_56 rfl (lv_at hl 1 rfl) ?_
      cases hf
      exact retI hx hb hr hlocks hP hS dX2_crash_57
    · have hf := it_f c20 hf
      refine lv_aload_n hx hb dX2_crash_23 rfl (lv_at hl 0 rfl) ?_
      refine va_get (D := (dC, dI)) (ci := 2) (v := .ref hg0) (C := RX2) (T := TX2) (N := 6) hx hb hts (fun w h => mc (inX2 w h)) hown hK hP 0 rfl rfl 3 (by decide) (hts _ (mc q_57)) (fun _ h9 => h9) rfl dX2_crash_24 ?_
      refine lv_iload_n hx hb dX2_crash_27 rfl (lv_at hl 2 rfl) ?_
      refine lv_aload_n hx hb dX2_crash_28 rfl (lv_at hl 0 rfl) ?_
      refine va_get (D := (dC, dI)) (ci := 2) (v := .ref hu0) (C := RX2) (T := TX2) (N := 6) hx hb hts (fun w h => mc (inX2 w h)) hown hK hP 0 rfl rfl 2 (by decide) (hts _ (mc q_56)) (fun _ h9 => h9) rfl dX2_crash_29 ?_
      obtain ⟨hukd_32, husz_32, hulk_32, huhm_32, hutg_32, huvl_32, hc32, hf⟩ := bn6_e hf
      refine callWv (wc := (wX0X1a cI hg0 hg1 hu0 hu1 hu2 hu3 hu4 hu5 hu6 hgln hgrw hukd husz hulk huhm hutg huvl)) (w1 := (wX0X1a cI hg0 hg1 hu0 hu1 hu2 hu3 hu4 hu5 hu6 hgln hgrw hukd_32 husz_32 hulk_32 huhm_32 hutg_32 huvl_32)) (ws' := (wX2 cI h0 ht0 ht1 ht2 ht3 ht4 ht5 ht6 hu0 hu1 hu2 hu3 hu4 hu5 hu6 hg0 hg1 hlim hkpt hsyn htkd htsz htlk hthm httg htvl hukd_32 husz_32 hulk_32 huhm_32 hutg_32 huvl_32 hgln hgrw)) (va_runV (As := [.int x3, .ref hu0]) (rest := []) ⟨hx, hb, hml, hown, hts⟩ (cX0_redo_met l dC dI cI hg0 hg1 hu0 hu1 hu2 hu3 hu4 hu5 hu6 hgln hgrw hukd husz hulk huhm hutg huvl x3 hukd_32 husz_32 hulk_32 huhm_32 hutg_32 huvl_32 hc32) (cwV 2 hts gX2_crash_98 rfl rfl rfl (by decide +kernel) ⟨Nat.le_of_ble_eq_true rfl, Nat.le_of_ble_eq_true rfl⟩) (preWV (ci := 0) (q0 := 0) hK (hP.sub (ws' := (wX0X1a cI hg0 hg1 hu0 hu1 hu2 hu3 hu4 hu5 hu6 hgln hgrw hukd husz hulk huhm hutg huvl)) [15, 16, 8, 9, 10, 11, 12, 13, 14] rfl) (hD.sub (ws' := (wX0X1a cI hg0 hg1 hu0 hu1 hu2 hu3 hu4 hu5 hu6 hgln hgrw hukd husz hulk huhm hutg huvl)) [15, 16, 8, 9, 10, 11, 12, 13, 14] (by decide) rfl) rfl rfl) rfl rfl hl.1 rfl (lv_room (Nat.le_of_ble_eq_true rfl)) dX2_crash_32 ⟨Nat.le_of_ble_eq_true rfl, Nat.le_of_ble_eq_true rfl⟩) hS hP hD [15, 16, 8, 9, 10, 11, 12, 13, 14] rfl rfl rfl rfl rfl (fun H locs hP hD hS => ?_)
      obtain ⟨v35, ev35, hf⟩ := slet_e hf
      refine lv_iinc (v := v35) (lv' := [(3, .int v35), (0, .ref h0), (2, .int x2)]) hx hb dX2_crash_35 hl (k := 2) rfl (by rw [ev35]; rfl) (by decide) rfl (fun ls hl => ?_)
      refine lv_goto (tgt := 18) hx hb dX2_crash_38 (by decide) ?_
      exact ih x2 v35 hkpt htkd htsz htlk hthm httg htvl hukd_32 husz_32 hulk_32 huhm_32 hutg_32 huvl_32 hgln _ _ hP hD hS _ (lv_sub hl [1, 2, 0] rfl) hf
set_option maxHeartbeats 4000000 in
set_option maxRecDepth 100000 in
theorem cX2_crash_met (l : Launch) (dC : Nat → ClassId) (dI : Nat → Nat → Nat) (cI : ClassId) (h0 ht0 ht1 ht2 ht3 ht4 ht5 ht6 hu0 hu1 hu2 hu3 hu4 hu5 hu6 hg0 hg1 : Nat) (hlim : Int32) (hkpt : Int32) (hsyn : Int32) (htkd : Nat → Int32) (htsz : Nat → Int32) (htlk : Nat → Int32) (hthm : Nat → Int32) (httg : Nat → Int32) (htvl : Nat → Int32) (hukd : Nat → Int32) (husz : Nat → Int32) (hulk : Nat → Int32) (huhm : Nat → Int32) (hutg : Nat → Int32) (huvl : Nat → Int32) (hgln : Int32) (hgrw : Nat → Int32) (x1 : Int32) (r : Int32) (hkpt_o : Int32) (htkd_o : Nat → Int32) (htsz_o : Nat → Int32) (htlk_o : Nat → Int32) (hthm_o : Nat → Int32) (httg_o : Nat → Int32) (htvl_o : Nat → Int32) (hukd_o : Nat → Int32) (husz_o : Nat → Int32) (hulk_o : Nat → Int32) (huhm_o : Nat → Int32) (hutg_o : Nat → Int32) (huvl_o : Nat → Int32) (hgln_o : Int32) (hf : fX2_crash x1 hgrw hkpt htkd htsz htlk hthm httg htvl hukd husz hulk huhm hutg huvl hgln = some (r, hkpt_o, htkd_o, htsz_o, htlk_o, hthm_o, httg_o, htvl_o, hukd_o, husz_o, hulk_o, huhm_o, hutg_o, huvl_o, hgln_o)) : Met l yX2_crash wsX2_crash ({ frames := 4, cells := 0, slots := 0, locals := 98 } : Room) (pcW [.ref h0, .int x1] (dC, dI) vwCl [(cI, .int)] (wX2 cI h0 ht0 ht1 ht2 ht3 ht4 ht5 ht6 hu0 hu1 hu2 hu3 hu4 hu5 hu6 hg0 hg1 hlim hkpt hsyn htkd htsz htlk hthm httg htvl hukd husz hulk huhm hutg huvl hgln hgrw)) (qI r (va_P (dC, dI) vwCl (wX2 cI h0 ht0 ht1 ht2 ht3 ht4 ht5 ht6 hu0 hu1 hu2 hu3 hu4 hu5 hu6 hg0 hg1 hlim hkpt_o hsyn htkd_o htsz_o htlk_o hthm_o httg_o htvl_o hukd_o husz_o hulk_o huhm_o hutg_o huvl_o hgln_o hgrw)) (inA [h0, ht0, ht1, ht2, ht3, ht4, ht5, ht6, hu0, hu1, hu2, hu3, hu4, hu5, hu6, hg0, hg1])) 0 0 (inA [h0, ht0, ht1, ht2, ht3, ht4, ht5, ht6, hu0, hu1, hu2, hu3, hu4, hu5, hu6, hg0, hg1]) := by
  refine Met.ofW (cc := cX2_crash) (maxL := 4) (ret := (some .int)) (by decide) rfl ?_
  intro p e s m args below meth c s₁ B hml hv
  obtain ⟨rfl, hP, hK, hD0⟩ := hv
  have hx := B.exec
  have hb := B.bytes
  have hr := B.returns
  have hts := atoms_spec (ws := wsX2_crash) B.pre
  have hown : s.vm.findClass RX2 = some m.cls := findClass_of_methodNamed B.named
  have hlocks := B.notSynchronized
  have hD := my_self (as := [h0, ht0, ht1, ht2, ht3, ht4, ht5, ht6, hu0, hu1, hu2, hu3, hu4, hu5, hu6, hg0, hg1]) hD0 rfl
  have hS : va_S (inA [h0, ht0, ht1, ht2, ht3, ht4, ht5, ht6, hu0, hu1, hu2, hu3, hu4, hu5, hu6, hg0, hg1]) s.heap s.heap [] := va_S.rf
  have hl := lv_entry ([.ref h0, .int x1]) (n := 4) (Nat.le_of_ble_eq_true rfl)
  rw [lg_entry_eq]
  generalize (lg_sl ([.ref h0, .int x1]) ++ List.replicate (4 - (lg_sl ([.ref h0, .int x1])).length) Slot.unset).toArray = ls at hl ⊢
  have hl : lv_has ls 4 [(0, .ref h0), (1, .int x1)] := hl
  unfold fX2_crash at hf
  refine lv_iconst (v := 0) hx hb dX2_crash_0 (by decide) ?_
  refine lv_iload_n hx hb dX2_crash_1 rfl (lv_at hl 1 rfl) ?_
  refine lv_aload_n hx hb dX2_crash_2 rfl (lv_at hl 0 rfl) ?_
  refine va_get (D := (dC, dI)) (ci := 2) (v := .ref hg0) (C := RX2) (T := TX2) (N := 6) hx hb hts (fun w h => mc (inX2 w h)) hown hK hP 0 rfl rfl 3 (by decide) (hts _ (mc q_57)) (fun _ h9 => h9) rfl dX2_crash_3 ?_
  obtain ⟨r6, hc6, hf⟩ := bn1_e hf
  refine callRi (va_runV (As := []) (rest := [.int x1, .int 0]) ⟨hx, hb, hml, hown, hts⟩ (cX0_length_met l dC dI cI hg0 hg1 hgln hgrw r6 hc6) (cwV 0 hts gX2_crash_95 rfl rfl rfl (by decide +kernel) ⟨Nat.le_of_ble_eq_true rfl, Nat.le_of_ble_eq_true rfl⟩) (preRV (ci := 0) (q0 := 0) hK (hP.sub (ws' := (wX0 cI hg0 hg1 hgln hgrw)) [15, 16] rfl) rfl rfl) rfl rfl hl.1 rfl (lv_room (Nat.le_of_ble_eq_true rfl)) dX2_crash_6 ⟨Nat.le_of_ble_eq_true rfl, Nat.le_of_ble_eq_true rfl⟩) hS hP (fun H locs hP hS => ?_)
  obtain ⟨v9, ev9, hf⟩ := slet_e hf
  refine va_mmin hx hb (hml.trans hl.1.symm) hown (hts _ (mc q_15)) (hts _ (mc q_16)) (hts _ (mc q_2)) (hts _ (mc q_17)) (Nat.le_of_ble_eq_true rfl) (Nat.le_of_ble_eq_true rfl) (Nat.le_of_ble_eq_true rfl) (Nat.le_of_ble_eq_true rfl) dX2_crash_9 ?_
  refine rw_nm ev9 ?_
  obtain ⟨v12, ev12, hf⟩ := slet_e hf
  refine va_mmax hx hb (hml.trans hl.1.symm) hown (hts _ (mc q_18)) (hts _ (mc q_19)) (hts _ (mc q_2)) (hts _ (mc q_20)) (Nat.le_of_ble_eq_true rfl) (Nat.le_of_ble_eq_true rfl) (Nat.le_of_ble_eq_true rfl) (Nat.le_of_ble_eq_true rfl) dX2_crash_12 ?_
  refine rw_nm ev12 ?_
  refine lv_istore_n (lv' := [(2, .int v12), (0, .ref h0), (1, .int x1)]) hx hb dX2_crash_15 rfl hl (by decide) rfl (fun ls hl => ?_)
  refine lv_iconst (v := 0) hx hb dX2_crash_16 (by decide) ?_
  refine lv_istore_n (lv' := [(3, .int 0), (2, .int v12), (0, .ref h0), (1, .int x1)]) hx hb dX2_crash_17 rfl hl (by decide) rfl (fun ls hl => ?_)
  exact wbX2_crash_18 hx hb hml hown hts hr hlocks hK h0 ht0 ht1 ht2 ht3 ht4 ht5 ht6 hu0 hu1 hu2 hu3 hu4 hu5 hu6 hg0 hg1 hlim hsyn hgrw r hkpt_o htkd_o htsz_o htlk_o hthm_o httg_o htvl_o hukd_o husz_o hulk_o huhm_o hutg_o huvl_o hgln_o 2000 v12 0 hkpt htkd htsz htlk hthm httg htvl hukd husz hulk huhm hutg huvl hgln _ _ hP hD hS _ (lv_sub hl [2, 1, 0] rfl) hf
