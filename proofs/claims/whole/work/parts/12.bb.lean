theorem gX2_makesRoom_92 : GoodIn wsX2_makesRoom (wsV RX2 92 RX2 yX2_countedSync wsX2_countedSync) := gIn (memV q_92 q_93 q_345 q_1 q_94)
theorem gX2_makesRoom_39 : GoodIn wsX2_makesRoom (wsV RX2 39 RX1 yX1_live wsX1_live) := gIn (memV q_42 q_43 q_44 q_3 q_45)
set_option maxHeartbeats 4000000 in
set_option maxRecDepth 100000 in
theorem wbX2_makesRoom_17 {p : Program} {l : Launch} {e : Env} {s : State} {m : MethodId} {args : Array Value} {below : List Frame} {meth : Method} {c : Code} {dC : Nat → ClassId} {dI : Nat → Nat → Nat} {cI : ClassId} (hx : p.tables.exec = Jvm.exec) (hb : c.code = cX2_makesRoom) (hml : c.maxLocals = 3) (hown : s.vm.findClass RX2 = some m.cls) (hts : ∀ w ∈ wsX2_makesRoom, w.before args s = true) (hr : meth.sig.returnType = (some .boolean)) (hlocks : meth.locks = false) (hK : va_K (dC, dI) vwCl [(cI, .int)] s) (h0 ht0 ht1 ht2 ht3 ht4 ht5 ht6 hu0 hu1 hu2 hu3 hu4 hu5 hu6 hg0 hg1 : Nat) (hlim : Int32) (htkd : Nat → Int32) (htsz : Nat → Int32) (htlk : Nat → Int32) (hthm : Nat → Int32) (httg : Nat → Int32) (htvl : Nat → Int32) (hgrw : Nat → Int32) (r : Int32) (hkpt_o : Int32) (hsyn_o : Int32) (hukd_o : Nat → Int32) (husz_o : Nat → Int32) (hulk_o : Nat → Int32) (huhm_o : Nat → Int32) (hutg_o : Nat → Int32) (huvl_o : Nat → Int32) (hgln_o : Int32) : ∀ (x2 : Int32) (hkpt : Int32) (hsyn : Int32) (hukd : Nat → Int32) (husz : Nat → Int32) (hulk : Nat → Int32) (huhm : Nat → Int32) (hutg : Nat → Int32) (huvl : Nat → Int32) (hgln : Int32) (H : Heap) (locs : List Loc), va_P (dC, dI) vwCl (wX2 cI h0 ht0 ht1 ht2 ht3 ht4 ht5 ht6 hu0 hu1 hu2 hu3 hu4 hu5 hu6 hg0 hg1 hlim hkpt hsyn htkd htsz htlk hthm httg htvl hukd husz hulk huhm hutg huvl hgln hgrw) H → va_D (inA [h0, ht0, ht1, ht2, ht3, ht4, ht5, ht6, hu0, hu1, hu2, hu3, hu4, hu5, hu6, hg0, hg1]) (wX2 cI h0 ht0 ht1 ht2 ht3 ht4 ht5 ht6 hu0 hu1 hu2 hu3 hu4 hu5 hu6 hg0 hg1 hlim hkpt hsyn htkd htsz htlk hthm httg htvl hukd husz hulk huhm hutg huvl hgln hgrw) → va_S (inA [h0, ht0, ht1, ht2, ht3, ht4, ht5, ht6, hu0, hu1, hu2, hu3, hu4, hu5, hu6, hg0, hg1]) s.heap H locs → ∀ (ls : Array Slot), lv_has ls 3 [(0, .ref h0), (2, .int x2)] → fX2_makesRoom_b17 hlim htkd htsz htlk hthm httg htvl x2 hkpt hsyn hukd husz hulk huhm hutg huvl hgln = some (r, hkpt_o, hsyn_o, hukd_o, husz_o, hulk_o, huhm_o, hutg_o, huvl_o, hgln_o) → W p l e ({ frames := 5, cells := 0, slots := 0, locals := 104 } : Room) s m args below meth c H locs 0 0 (MQ below (qI r (va_P (dC, dI) vwCl (wX2 cI h0 ht0 ht1 ht2 ht3 ht4 ht5 ht6 hu0 hu1 hu2 hu3 hu4 hu5 hu6 hg0 hg1 hlim hkpt_o hsyn_o htkd htsz htlk hthm httg htvl hukd_o husz_o hulk_o huhm_o hutg_o huvl_o hgln_o hgrw)) (inA [h0, ht0, ht1, ht2, ht3, ht4, ht5, ht6, hu0, hu1, hu2, hu3, hu4, hu5, hu6, hg0, hg1])) args s 0 0 (inA [h0, ht0, ht1, ht2, ht3, ht4, ht5, ht6, hu0, hu1, hu2, hu3, hu4, hu5, hu6, hg0, hg1])) (F0 m 17 ls []) := by
  intro x2 hkpt hsyn hukd husz hulk huhm hutg huvl hgln H locs hP hD hS ls hl hf
  unfold fX2_makesRoom_b17 at hf
  refine lv_aload_n hx hb dX2_makesRoom_17 rfl (lv_at hl 0 rfl) ?_
  refine va_get (D := (dC, dI)) (ci := 2) (v := .ref ht0) (C := RX2) (T := TX2) (N := 6) hx hb hts (fun w h => mc (inX2 w h)) hown hK hP 0 rfl rfl 1 (by decide) (hts _ (mc q_55)) (fun _ h9 => h9) rfl dX2_makesRoom_18 ?_
  obtain ⟨r21, hc21, hf⟩ := bn1_e hf
  refine callRi (va_runV (As := []) (rest := []) ⟨hx, hb, hml, hown, hts⟩ (cX1_live_met l dC dI cI ht0 ht1 ht2 ht3 ht4 ht5 ht6 htkd htsz htlk hthm httg htvl r21 hc21) (cwV 0 hts gX2_makesRoom_39 rfl rfl rfl (by decide +kernel) ⟨Nat.le_of_ble_eq_true rfl, Nat.le_of_ble_eq_true rfl⟩) (preRV (ci := 1) (q0 := 0) hK (hP.sub (ws' := (wX1 cI ht0 ht1 ht2 ht3 ht4 ht5 ht6 htkd htsz htlk hthm httg htvl)) [1, 2, 3, 4, 5, 6, 7] rfl) rfl rfl) rfl rfl hl.1 rfl (lv_room (Nat.le_of_ble_eq_true rfl)) dX2_makesRoom_21 ⟨Nat.le_of_ble_eq_true rfl, Nat.le_of_ble_eq_true rfl⟩) hS hP (fun H locs hP hS => ?_)
  refine lv_iload_n hx hb dX2_makesRoom_24 rfl (lv_at hl 1 rfl) ?_
  obtain ⟨v25, ev25, hf⟩ := slet_e hf
  refine lv_iadd hx hb dX2_makesRoom_25 ?_
  refine rw_nm ev25 ?_
  refine lv_aload_n hx hb dX2_makesRoom_26 rfl (lv_at hl 0 rfl) ?_
  refine va_get (D := (dC, dI)) (ci := 2) (v := .int hlim) (C := RX2) (T := TX2) (N := 6) hx hb hts (fun w h => mc (inX2 w h)) hown hK hP 0 rfl rfl 0 (by decide) (hts _ (mc q_54)) (fun _ h9 => h9) rfl dX2_makesRoom_27 ?_
  refine lv_bipush (v := 8) hx hb dX2_makesRoom_30 (by decide) ?_
  obtain ⟨v32, ev32, hf⟩ := slet_e hf
  refine lv_isub hx hb dX2_makesRoom_32 ?_
  refine rw_nm ev32 ?_
  refine lv_icmp_gt (tgt := 40) hx hb dX2_makesRoom_33 (by decide) (fun c33 => ?_) (fun c33 => ?_)
  · have hf := it_t c33 hf
    refine lv_iconst (v := 0) hx hb dX2_makesRoom_40 (by decide) ?_
    cases hf
    exact retZ hx hb hr hlocks (by decide) hP hS dX2_makesRoom_41
  · have hf := it_f c33 hf
    refine lv_iconst (v := 1) hx hb dX2_makesRoom_36 (by decide) ?_
    refine lv_goto (tgt := 41) hx hb dX2_makesRoom_37 (by decide) ?_
    cases hf
    exact retZ hx hb hr hlocks (by decide) hP hS dX2_makesRoom_41
set_option maxHeartbeats 4000000 in
set_option maxRecDepth 100000 in
theorem cX2_makesRoom_met (l : Launch) (dC : Nat → ClassId) (dI : Nat → Nat → Nat) (cI : ClassId) (h0 ht0 ht1 ht2 ht3 ht4 ht5 ht6 hu0 hu1 hu2 hu3 hu4 hu5 hu6 hg0 hg1 : Nat) (hlim : Int32) (hkpt : Int32) (hsyn : Int32) (htkd : Nat → Int32) (htsz : Nat → Int32) (htlk : Nat → Int32) (hthm : Nat → Int32) (httg : Nat → Int32) (htvl : Nat → Int32) (hukd : Nat → Int32) (husz : Nat → Int32) (hulk : Nat → Int32) (huhm : Nat → Int32) (hutg : Nat → Int32) (huvl : Nat → Int32) (hgln : Int32) (hgrw : Nat → Int32) (x1 : Int32) (x2 : Int32) (r : Int32) (hkpt_o : Int32) (hsyn_o : Int32) (hukd_o : Nat → Int32) (husz_o : Nat → Int32) (hulk_o : Nat → Int32) (huhm_o : Nat → Int32) (hutg_o : Nat → Int32) (huvl_o : Nat → Int32) (hgln_o : Int32) (hf : fX2_makesRoom x1 x2 hlim htkd htsz htlk hthm httg htvl hkpt hsyn hukd husz hulk huhm hutg huvl hgln = some (r, hkpt_o, hsyn_o, hukd_o, husz_o, hulk_o, huhm_o, hutg_o, huvl_o, hgln_o)) : Met l yX2_makesRoom wsX2_makesRoom ({ frames := 5, cells := 0, slots := 0, locals := 104 } : Room) (pcW [.ref h0, .int x1, .int x2] (dC, dI) vwCl [(cI, .int)] (wX2 cI h0 ht0 ht1 ht2 ht3 ht4 ht5 ht6 hu0 hu1 hu2 hu3 hu4 hu5 hu6 hg0 hg1 hlim hkpt hsyn htkd htsz htlk hthm httg htvl hukd husz hulk huhm hutg huvl hgln hgrw)) (qI r (va_P (dC, dI) vwCl (wX2 cI h0 ht0 ht1 ht2 ht3 ht4 ht5 ht6 hu0 hu1 hu2 hu3 hu4 hu5 hu6 hg0 hg1 hlim hkpt_o hsyn_o htkd htsz htlk hthm httg htvl hukd_o husz_o hulk_o huhm_o hutg_o huvl_o hgln_o hgrw)) (inA [h0, ht0, ht1, ht2, ht3, ht4, ht5, ht6, hu0, hu1, hu2, hu3, hu4, hu5, hu6, hg0, hg1])) 0 0 (inA [h0, ht0, ht1, ht2, ht3, ht4, ht5, ht6, hu0, hu1, hu2, hu3, hu4, hu5, hu6, hg0, hg1]) := by
  refine Met.ofW (cc := cX2_makesRoom) (maxL := 3) (ret := (some .boolean)) (by decide) rfl ?_
  intro p e s m args below meth c s₁ B hml hv
  obtain ⟨rfl, hP, hK, hD0⟩ := hv
  have hx := B.exec
  have hb := B.bytes
  have hr := B.returns
  have hts := atoms_spec (ws := wsX2_makesRoom) B.pre
  have hown : s.vm.findClass RX2 = some m.cls := findClass_of_methodNamed B.named
  have hlocks := B.notSynchronized
  have hD := my_self (as := [h0, ht0, ht1, ht2, ht3, ht4, ht5, ht6, hu0, hu1, hu2, hu3, hu4, hu5, hu6, hg0, hg1]) hD0 rfl
  have hS : va_S (inA [h0, ht0, ht1, ht2, ht3, ht4, ht5, ht6, hu0, hu1, hu2, hu3, hu4, hu5, hu6, hg0, hg1]) s.heap s.heap [] := va_S.rf
  have hl := lv_entry ([.ref h0, .int x1, .int x2]) (n := 3) (Nat.le_of_ble_eq_true rfl)
  rw [lg_entry_eq]
  generalize (lg_sl ([.ref h0, .int x1, .int x2]) ++ List.replicate (3 - (lg_sl ([.ref h0, .int x1, .int x2])).length) Slot.unset).toArray = ls at hl ⊢
  have hl : lv_has ls 3 [(0, .ref h0), (1, .int x1), (2, .int x2)] := hl
  unfold fX2_makesRoom at hf
  refine lv_aload_n hx hb dX2_makesRoom_0 rfl (lv_at hl 0 rfl) ?_
  refine va_get (D := (dC, dI)) (ci := 2) (v := .int hkpt) (C := RX2) (T := TX2) (N := 6) hx hb hts (fun w h => mc (inX2 w h)) hown hK hP 0 rfl rfl 4 (by decide) (hts _ (mc q_58)) (fun _ h9 => h9) rfl dX2_makesRoom_1 ?_
  refine lv_iload_n hx hb dX2_makesRoom_4 rfl (lv_at hl 1 rfl) ?_
  obtain ⟨v5, ev5, hf⟩ := slet_e hf
  refine lv_iadd hx hb dX2_makesRoom_5 ?_
  refine rw_nm ev5 ?_
  refine lv_aload_n hx hb dX2_makesRoom_6 rfl (lv_at hl 0 rfl) ?_
  refine va_get (D := (dC, dI)) (ci := 2) (v := .int hlim) (C := RX2) (T := TX2) (N := 6) hx hb hts (fun w h => mc (inX2 w h)) hown hK hP 0 rfl rfl 0 (by decide) (hts _ (mc q_54)) (fun _ h9 => h9) rfl dX2_makesRoom_7 ?_
  refine lv_icmp_le (tgt := 17) hx hb dX2_makesRoom_10 (by decide) (fun c10 => ?_) (fun c10 => ?_)
  · have hf := it_t c10 hf
    exact wbX2_makesRoom_17 hx hb hml hown hts hr hlocks hK h0 ht0 ht1 ht2 ht3 ht4 ht5 ht6 hu0 hu1 hu2 hu3 hu4 hu5 hu6 hg0 hg1 hlim htkd htsz htlk hthm httg htvl hgrw r hkpt_o hsyn_o hukd_o husz_o hulk_o huhm_o hutg_o huvl_o hgln_o x2 hkpt hsyn hukd husz hulk huhm hutg huvl hgln _ _ hP hD hS _ (lv_sub hl [0, 2] rfl) hf
  · have hf := it_f c10 hf
    refine lv_aload_n hx hb dX2_makesRoom_13 rfl (lv_at hl 0 rfl) ?_
    obtain ⟨hkpt_14, hsyn_14, hukd_14, husz_14, hulk_14, huhm_14, hutg_14, huvl_14, hgln_14, hc14, hf⟩ := bn9_e hf
    refine callVv (w1 := (wX2 cI h0 ht0 ht1 ht2 ht3 ht4 ht5 ht6 hu0 hu1 hu2 hu3 hu4 hu5 hu6 hg0 hg1 hlim hkpt_14 hsyn_14 htkd htsz htlk hthm httg htvl hukd_14 husz_14 hulk_14 huhm_14 hutg_14 huvl_14 hgln_14 hgrw)) (va_runV (As := []) (rest := []) ⟨hx, hb, hml, hown, hts⟩ (cX2_countedSync_met l dC dI cI h0 ht0 ht1 ht2 ht3 ht4 ht5 ht6 hu0 hu1 hu2 hu3 hu4 hu5 hu6 hg0 hg1 hlim hkpt hsyn htkd htsz htlk hthm httg htvl hukd husz hulk huhm hutg huvl hgln hgrw hkpt_14 hsyn_14 hukd_14 husz_14 hulk_14 huhm_14 hutg_14 huvl_14 hgln_14 hc14) (cwV 0 hts gX2_makesRoom_92 rfl rfl rfl (by decide +kernel) ⟨Nat.le_of_ble_eq_true rfl, Nat.le_of_ble_eq_true rfl⟩) (preWV (ci := 2) (q0 := 0) hK hP hD rfl rfl) rfl rfl hl.1 rfl (lv_room (Nat.le_of_ble_eq_true rfl)) dX2_makesRoom_14 ⟨Nat.le_of_ble_eq_true rfl, Nat.le_of_ble_eq_true rfl⟩) hS hD rfl rfl (fun H locs hP hD hS => ?_)
    exact wbX2_makesRoom_17 hx hb hml hown hts hr hlocks hK h0 ht0 ht1 ht2 ht3 ht4 ht5 ht6 hu0 hu1 hu2 hu3 hu4 hu5 hu6 hg0 hg1 hlim htkd htsz htlk hthm httg htvl hgrw r hkpt_o hsyn_o hukd_o husz_o hulk_o huhm_o hutg_o huvl_o hgln_o x2 hkpt_14 hsyn_14 hukd_14 husz_14 hulk_14 huhm_14 hutg_14 huvl_14 hgln_14 _ _ hP hD hS _ (lv_sub hl [0, 2] rfl) hf
