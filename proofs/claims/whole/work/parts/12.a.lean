set_option maxHeartbeats 4000000 in
set_option maxRecDepth 100000 in
theorem cX2_isNode_met (l : Launch) (dC : Nat → ClassId) (dI : Nat → Nat → Nat) (cI : ClassId) (x0 : Int32) (r : Int32) (hf : fX2_isNode x0 = some r) : Met l yX2_isNode wsX2_isNode ({ frames := 0, cells := 0, slots := 0, locals := 0 } : Room) (pcR [.int x0] (dC, dI) vwCl [(cI, .int)] []) (qI r pT aN) 0 0 aN := by
  refine Met.ofW (cc := cX2_isNode) (maxL := 1) (ret := (some .boolean)) (by decide) rfl ?_
  intro p e s m args below meth c s₁ B hml hv
  obtain ⟨rfl, hP, hK⟩ := hv
  have hx := B.exec
  have hb := B.bytes
  have hr := B.returns
  have hts := atoms_spec (ws := wsX2_isNode) B.pre
  have hown : s.vm.findClass RX2 = some m.cls := findClass_of_methodNamed B.named
  have hlocks := B.notSynchronized
  have hS : va_S aN s.heap s.heap [] := va_S.rf
  have hl := lv_entry ([.int x0]) (n := 1) (Nat.le_of_ble_eq_true rfl)
  rw [lg_entry_eq]
  generalize (lg_sl ([.int x0]) ++ List.replicate (1 - (lg_sl ([.int x0])).length) Slot.unset).toArray = ls at hl ⊢
  have hl : lv_has ls 1 [(0, .int x0)] := hl
  unfold fX2_isNode at hf
  refine lv_iload_n hx hb dX2_isNode_0 rfl (lv_at hl 0 rfl) ?_
  refine lv_if_lt (tgt := 14) hx hb dX2_isNode_1 (by decide) (fun c1 => ?_) (fun c1 => ?_)
  · have hf := it_t c1 hf
    refine lv_iconst (v := 0) hx hb dX2_isNode_14 (by decide) ?_
    cases hf
    exact retZ hx hb hr hlocks (by decide) trivial hS dX2_isNode_15
  · have hf := it_f c1 hf
    refine lv_iload_n hx hb dX2_isNode_4 rfl (lv_at hl 0 rfl) ?_
    refine lv_bipush (v := 16) hx hb dX2_isNode_5 (by decide) ?_
    refine lv_icmp_ge (tgt := 14) hx hb dX2_isNode_7 (by decide) (fun c7 => ?_) (fun c7 => ?_)
    · have hf := it_t c7 hf
      refine lv_iconst (v := 0) hx hb dX2_isNode_14 (by decide) ?_
      cases hf
      exact retZ hx hb hr hlocks (by decide) trivial hS dX2_isNode_15
    · have hf := it_f c7 hf
      refine lv_iconst (v := 1) hx hb dX2_isNode_10 (by decide) ?_
      refine lv_goto (tgt := 15) hx hb dX2_isNode_11 (by decide) ?_
      cases hf
      exact retZ hx hb hr hlocks (by decide) trivial hS dX2_isNode_15
set_option maxHeartbeats 4000000 in
set_option maxRecDepth 100000 in
theorem cX2_isName_met (l : Launch) (dC : Nat → ClassId) (dI : Nat → Nat → Nat) (cI : ClassId) (x0 : Int32) (r : Int32) (hf : fX2_isName x0 = some r) : Met l yX2_isName wsX2_isName ({ frames := 0, cells := 0, slots := 0, locals := 0 } : Room) (pcR [.int x0] (dC, dI) vwCl [(cI, .int)] []) (qI r pT aN) 0 0 aN := by
  refine Met.ofW (cc := cX2_isName) (maxL := 1) (ret := (some .boolean)) (by decide) rfl ?_
  intro p e s m args below meth c s₁ B hml hv
  obtain ⟨rfl, hP, hK⟩ := hv
  have hx := B.exec
  have hb := B.bytes
  have hr := B.returns
  have hts := atoms_spec (ws := wsX2_isName) B.pre
  have hown : s.vm.findClass RX2 = some m.cls := findClass_of_methodNamed B.named
  have hlocks := B.notSynchronized
  have hS : va_S aN s.heap s.heap [] := va_S.rf
  have hl := lv_entry ([.int x0]) (n := 1) (Nat.le_of_ble_eq_true rfl)
  rw [lg_entry_eq]
  generalize (lg_sl ([.int x0]) ++ List.replicate (1 - (lg_sl ([.int x0])).length) Slot.unset).toArray = ls at hl ⊢
  have hl : lv_has ls 1 [(0, .int x0)] := hl
  unfold fX2_isName at hf
  refine lv_iload_n hx hb dX2_isName_0 rfl (lv_at hl 0 rfl) ?_
  refine lv_if_lt (tgt := 14) hx hb dX2_isName_1 (by decide) (fun c1 => ?_) (fun c1 => ?_)
  · have hf := it_t c1 hf
    refine lv_iconst (v := 0) hx hb dX2_isName_14 (by decide) ?_
    cases hf
    exact retZ hx hb hr hlocks (by decide) trivial hS dX2_isName_15
  · have hf := it_f c1 hf
    refine lv_iload_n hx hb dX2_isName_4 rfl (lv_at hl 0 rfl) ?_
    refine lv_bipush (v := 32) hx hb dX2_isName_5 (by decide) ?_
    refine lv_icmp_ge (tgt := 14) hx hb dX2_isName_7 (by decide) (fun c7 => ?_) (fun c7 => ?_)
    · have hf := it_t c7 hf
      refine lv_iconst (v := 0) hx hb dX2_isName_14 (by decide) ?_
      cases hf
      exact retZ hx hb hr hlocks (by decide) trivial hS dX2_isName_15
    · have hf := it_f c7 hf
      refine lv_iconst (v := 1) hx hb dX2_isName_10 (by decide) ?_
      refine lv_goto (tgt := 15) hx hb dX2_isName_11 (by decide) ?_
      cases hf
      exact retZ hx hb hr hlocks (by decide) trivial hS dX2_isName_15
set_option maxHeartbeats 4000000 in
set_option maxRecDepth 100000 in
theorem cX2_costOf_met (l : Launch) (dC : Nat → ClassId) (dI : Nat → Nat → Nat) (cI : ClassId) (x0 : Int32) (x1 : Int32) (r : Int32) (hf : fX2_costOf x0 x1 = some r) : Met l yX2_costOf wsX2_costOf ({ frames := 0, cells := 0, slots := 0, locals := 0 } : Room) (pcR [.int x0, .int x1] (dC, dI) vwCl [(cI, .int)] []) (qI r pT aN) 0 0 aN := by
  refine Met.ofW (cc := cX2_costOf) (maxL := 2) (ret := (some .int)) (by decide) rfl ?_
  intro p e s m args below meth c s₁ B hml hv
  obtain ⟨rfl, hP, hK⟩ := hv
  have hx := B.exec
  have hb := B.bytes
  have hr := B.returns
  have hts := atoms_spec (ws := wsX2_costOf) B.pre
  have hown : s.vm.findClass RX2 = some m.cls := findClass_of_methodNamed B.named
  have hlocks := B.notSynchronized
  have hS : va_S aN s.heap s.heap [] := va_S.rf
  have hl := lv_entry ([.int x0, .int x1]) (n := 2) (Nat.le_of_ble_eq_true rfl)
  rw [lg_entry_eq]
  generalize (lg_sl ([.int x0, .int x1]) ++ List.replicate (2 - (lg_sl ([.int x0, .int x1])).length) Slot.unset).toArray = ls at hl ⊢
  have hl : lv_has ls 2 [(0, .int x0), (1, .int x1)] := hl
  unfold fX2_costOf at hf
  refine lv_iconst (v := 1) hx hb dX2_costOf_0 (by decide) ?_
  refine lv_iload_n hx hb dX2_costOf_1 rfl (lv_at hl 0 rfl) ?_
  obtain ⟨v2, ev2, hf⟩ := slet_e hf
  refine lv_iadd hx hb dX2_costOf_2 ?_
  refine rw_nm ev2 ?_
  refine lv_iload_n hx hb dX2_costOf_3 rfl (lv_at hl 1 rfl) ?_
  obtain ⟨v4, ev4, hf⟩ := slet_e hf
  refine lv_iadd hx hb dX2_costOf_4 ?_
  refine rw_nm ev4 ?_
  cases hf
  exact retI hx hb hr hlocks trivial hS dX2_costOf_5
theorem gX2_startAfresh_127 : GoodIn wsX2_startAfresh (wsV RX2 127 RX0 yX0_clear wsX0_clear) := gIn (memV q_105 q_106 q_107 q_4 q_108)
theorem gX2_startAfresh_39 : GoodIn wsX2_startAfresh (wsV RX2 39 RX1 yX1_live wsX1_live) := gIn (memV q_42 q_43 q_44 q_3 q_45)
set_option maxHeartbeats 4000000 in
set_option maxRecDepth 100000 in
theorem cX2_startAfresh_met (l : Launch) (dC : Nat → ClassId) (dI : Nat → Nat → Nat) (cI : ClassId) (h0 ht0 ht1 ht2 ht3 ht4 ht5 ht6 hu0 hu1 hu2 hu3 hu4 hu5 hu6 hg0 hg1 : Nat) (hlim : Int32) (hkpt : Int32) (hsyn : Int32) (htkd : Nat → Int32) (htsz : Nat → Int32) (htlk : Nat → Int32) (hthm : Nat → Int32) (httg : Nat → Int32) (htvl : Nat → Int32) (hukd : Nat → Int32) (husz : Nat → Int32) (hulk : Nat → Int32) (huhm : Nat → Int32) (hutg : Nat → Int32) (huvl : Nat → Int32) (hgln : Int32) (hgrw : Nat → Int32) (hkpt_o : Int32) (hgln_o : Int32) (hf : fX2_startAfresh htkd htsz hkpt hgln = some (hkpt_o, hgln_o)) : Met l yX2_startAfresh wsX2_startAfresh ({ frames := 3, cells := 0, slots := 0, locals := 64 } : Room) (pcW [.ref h0] (dC, dI) vwCl [(cI, .int)] (wX2 cI h0 ht0 ht1 ht2 ht3 ht4 ht5 ht6 hu0 hu1 hu2 hu3 hu4 hu5 hu6 hg0 hg1 hlim hkpt hsyn htkd htsz htlk hthm httg htvl hukd husz hulk huhm hutg huvl hgln hgrw)) (qV (va_P (dC, dI) vwCl (wX2 cI h0 ht0 ht1 ht2 ht3 ht4 ht5 ht6 hu0 hu1 hu2 hu3 hu4 hu5 hu6 hg0 hg1 hlim hkpt_o hsyn htkd htsz htlk hthm httg htvl hukd husz hulk huhm hutg huvl hgln_o hgrw)) (inA [h0, ht0, ht1, ht2, ht3, ht4, ht5, ht6, hu0, hu1, hu2, hu3, hu4, hu5, hu6, hg0, hg1])) 0 0 (inA [h0, ht0, ht1, ht2, ht3, ht4, ht5, ht6, hu0, hu1, hu2, hu3, hu4, hu5, hu6, hg0, hg1]) := by
  refine Met.ofW (cc := cX2_startAfresh) (maxL := 1) (ret := none) (by decide) rfl ?_
  intro p e s m args below meth c s₁ B hml hv
  obtain ⟨rfl, hP, hK, hD0⟩ := hv
  have hx := B.exec
  have hb := B.bytes
  have hr := B.returns
  have hts := atoms_spec (ws := wsX2_startAfresh) B.pre
  have hown : s.vm.findClass RX2 = some m.cls := findClass_of_methodNamed B.named
  have hlocks := B.notSynchronized
  have hD := my_self (as := [h0, ht0, ht1, ht2, ht3, ht4, ht5, ht6, hu0, hu1, hu2, hu3, hu4, hu5, hu6, hg0, hg1]) hD0 rfl
  have hS : va_S (inA [h0, ht0, ht1, ht2, ht3, ht4, ht5, ht6, hu0, hu1, hu2, hu3, hu4, hu5, hu6, hg0, hg1]) s.heap s.heap [] := va_S.rf
  have hl := lv_entry ([.ref h0]) (n := 1) (Nat.le_of_ble_eq_true rfl)
  rw [lg_entry_eq]
  generalize (lg_sl ([.ref h0]) ++ List.replicate (1 - (lg_sl ([.ref h0])).length) Slot.unset).toArray = ls at hl ⊢
  have hl : lv_has ls 1 [(0, .ref h0)] := hl
  unfold fX2_startAfresh at hf
  refine lv_aload_n hx hb dX2_startAfresh_0 rfl (lv_at hl 0 rfl) ?_
  refine va_get (D := (dC, dI)) (ci := 2) (v := .ref hg0) (C := RX2) (T := TX2) (N := 6) hx hb hts (fun w h => mc (inX2 w h)) hown hK hP 0 rfl rfl 3 (by decide) (hts _ (mc q_57)) (fun _ h9 => h9) rfl dX2_startAfresh_1 ?_
  obtain ⟨hgln_4, hc4, hf⟩ := bn1_e hf
  refine callWv (wc := (wX0 cI hg0 hg1 hgln hgrw)) (w1 := (wX0 cI hg0 hg1 hgln_4 hgrw)) (ws' := (wX2 cI h0 ht0 ht1 ht2 ht3 ht4 ht5 ht6 hu0 hu1 hu2 hu3 hu4 hu5 hu6 hg0 hg1 hlim hkpt hsyn htkd htsz htlk hthm httg htvl hukd husz hulk huhm hutg huvl hgln_4 hgrw)) (va_runV (As := []) (rest := []) ⟨hx, hb, hml, hown, hts⟩ (cX0_clear_met l dC dI cI hg0 hg1 hgln hgrw hgln_4 hc4) (cwV 0 hts gX2_startAfresh_127 rfl rfl rfl (by decide +kernel) ⟨Nat.le_of_ble_eq_true rfl, Nat.le_of_ble_eq_true rfl⟩) (preWV (ci := 0) (q0 := 0) hK (hP.sub (ws' := (wX0 cI hg0 hg1 hgln hgrw)) [15, 16] rfl) (hD.sub (ws' := (wX0 cI hg0 hg1 hgln hgrw)) [15, 16] (by decide) rfl) rfl rfl) rfl rfl hl.1 rfl (lv_room (Nat.le_of_ble_eq_true rfl)) dX2_startAfresh_4 ⟨Nat.le_of_ble_eq_true rfl, Nat.le_of_ble_eq_true rfl⟩) hS hP hD [15, 16] rfl rfl rfl rfl rfl (fun H locs hP hD hS => ?_)
  refine lv_aload_n hx hb dX2_startAfresh_7 rfl (lv_at hl 0 rfl) ?_
  refine lv_aload_n hx hb dX2_startAfresh_8 rfl (lv_at hl 0 rfl) ?_
  refine va_get (D := (dC, dI)) (ci := 2) (v := .ref ht0) (C := RX2) (T := TX2) (N := 6) hx hb hts (fun w h => mc (inX2 w h)) hown hK hP 0 rfl rfl 1 (by decide) (hts _ (mc q_55)) (fun _ h9 => h9) rfl dX2_startAfresh_9 ?_
  obtain ⟨r12, hc12, hf⟩ := bn1_e hf
  refine callRi (va_runV (As := []) (rest := [.ref h0]) ⟨hx, hb, hml, hown, hts⟩ (cX1_live_met l dC dI cI ht0 ht1 ht2 ht3 ht4 ht5 ht6 htkd htsz htlk hthm httg htvl r12 hc12) (cwV 0 hts gX2_startAfresh_39 rfl rfl rfl (by decide +kernel) ⟨Nat.le_of_ble_eq_true rfl, Nat.le_of_ble_eq_true rfl⟩) (preRV (ci := 1) (q0 := 0) hK (hP.sub (ws' := (wX1 cI ht0 ht1 ht2 ht3 ht4 ht5 ht6 htkd htsz htlk hthm httg htvl)) [1, 2, 3, 4, 5, 6, 7] rfl) rfl rfl) rfl rfl hl.1 rfl (lv_room (Nat.le_of_ble_eq_true rfl)) dX2_startAfresh_12 ⟨Nat.le_of_ble_eq_true rfl, Nat.le_of_ble_eq_true rfl⟩) hS hP (fun H locs hP hS => ?_)
  refine rw_put (D := (dC, dI)) (ci := 2) (v := .int r12) (ty := .int) (C := RX2) (T := TX2) (N := 6) (ws' := (wX2 cI h0 ht0 ht1 ht2 ht3 ht4 ht5 ht6 hu0 hu1 hu2 hu3 hu4 hu5 hu6 hg0 hg1 hlim r12 hsyn htkd htsz htlk hthm httg htvl hukd husz hulk huhm hutg huvl hgln_4 hgrw)) hx hb hts (fun w h => mc (inX2 w h)) tyX2 tyX2_ok nmX2 hown hK hP hD hS 0 rfl rfl 4 (by decide) (hts _ (mc q_58)) (fun _ h9 => h9) rfl (by decide +kernel) rfl rfl (Nat.le_of_ble_eq_true rfl) rfl dX2_startAfresh_15 (fun H locs hP hD hS => ?_)
  cases hf
  exact retV hx hb hr hlocks hP hS dX2_startAfresh_18
