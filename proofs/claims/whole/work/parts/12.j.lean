theorem gX2_find_49 : GoodIn wsX2_find (wsS RX2 49 yX2_isNode wsX2_isNode) := gIn (memS q_64 q_65 q_1 q_66)
theorem gX2_find_53 : GoodIn wsX2_find (wsS RX2 53 yX2_isName wsX2_isName) := gIn (memS q_67 q_68 q_1 q_69)
theorem gX2_find_56 : GoodIn wsX2_find (wsV RX2 56 RX1 yX1_isDirectory wsX1_isDirectory) := gIn (memV q_70 q_71 q_72 q_3 q_73)
theorem gX2_find_59 : GoodIn wsX2_find (wsV RX2 59 RX1 yX1_target wsX1_target) := gIn (memV q_74 q_75 q_76 q_3 q_77)
set_option maxHeartbeats 4000000 in
set_option maxRecDepth 100000 in
theorem cX2_find_met (l : Launch) (dC : Nat → ClassId) (dI : Nat → Nat → Nat) (cI : ClassId) (h0 ht0 ht1 ht2 ht3 ht4 ht5 ht6 hu0 hu1 hu2 hu3 hu4 hu5 hu6 hg0 hg1 : Nat) (hlim : Int32) (hkpt : Int32) (hsyn : Int32) (htkd : Nat → Int32) (htsz : Nat → Int32) (htlk : Nat → Int32) (hthm : Nat → Int32) (httg : Nat → Int32) (htvl : Nat → Int32) (hukd : Nat → Int32) (husz : Nat → Int32) (hulk : Nat → Int32) (huhm : Nat → Int32) (hutg : Nat → Int32) (huvl : Nat → Int32) (hgln : Int32) (hgrw : Nat → Int32) (x1 : Int32) (x2 : Int32) (r : Int32) (hf : fX2_find x1 x2 htkd httg = some r) : Met l yX2_find wsX2_find ({ frames := 1, cells := 0, slots := 0, locals := 22 } : Room) (pcR [.ref h0, .int x1, .int x2] (dC, dI) vwCl [(cI, .int)] (wX2 cI h0 ht0 ht1 ht2 ht3 ht4 ht5 ht6 hu0 hu1 hu2 hu3 hu4 hu5 hu6 hg0 hg1 hlim hkpt hsyn htkd htsz htlk hthm httg htvl hukd husz hulk huhm hutg huvl hgln hgrw)) (qI r pT aN) 0 0 aN := by
  refine Met.ofW (cc := cX2_find) (maxL := 3) (ret := (some .int)) (by decide) rfl ?_
  intro p e s m args below meth c s₁ B hml hv
  obtain ⟨rfl, hP, hK⟩ := hv
  have hx := B.exec
  have hb := B.bytes
  have hr := B.returns
  have hts := atoms_spec (ws := wsX2_find) B.pre
  have hown : s.vm.findClass RX2 = some m.cls := findClass_of_methodNamed B.named
  have hlocks := B.notSynchronized
  have hS : va_S aN s.heap s.heap [] := va_S.rf
  have hl := lv_entry ([.ref h0, .int x1, .int x2]) (n := 3) (Nat.le_of_ble_eq_true rfl)
  rw [lg_entry_eq]
  generalize (lg_sl ([.ref h0, .int x1, .int x2]) ++ List.replicate (3 - (lg_sl ([.ref h0, .int x1, .int x2])).length) Slot.unset).toArray = ls at hl ⊢
  have hl : lv_has ls 3 [(0, .ref h0), (1, .int x1), (2, .int x2)] := hl
  unfold fX2_find at hf
  refine lv_iload_n hx hb dX2_find_0 rfl (lv_at hl 1 rfl) ?_
  obtain ⟨r1, hc1, hf⟩ := bn1_e hf
  refine callRi (va_runS (As := [.int x1]) (rest := []) ⟨hx, hb, hml, hown, hts⟩ (cX2_isNode_met l dC dI cI x1 r1 hc1) (cwS 1 hts gX2_find_49 rfl rfl rfl (by decide +kernel) ⟨Nat.le_of_ble_eq_true rfl, Nat.le_of_ble_eq_true rfl⟩) (preRS hK (hP.sub (ws' := []) [] rfl)) rfl rfl hl.1 rfl (lv_room (Nat.le_of_ble_eq_true rfl)) dX2_find_1 ⟨Nat.le_of_ble_eq_true rfl, Nat.le_of_ble_eq_true rfl⟩) hS hP (fun H locs hP hS => ?_)
  refine lv_if_eq (tgt := 14) hx hb dX2_find_4 (by decide) (fun c4 => ?_) (fun c4 => ?_)
  · have hf := it_t c4 hf
    refine lv_iconst (v := -1) hx hb dX2_find_14 (by decide) ?_
    cases hf
    exact retI hx hb hr hlocks trivial hS dX2_find_15
  · have hf := it_f c4 hf
    refine lv_iload_n hx hb dX2_find_7 rfl (lv_at hl 2 rfl) ?_
    obtain ⟨r8, hc8, hf⟩ := bn1_e hf
    refine callRi (va_runS (As := [.int x2]) (rest := []) ⟨hx, hb, hml, hown, hts⟩ (cX2_isName_met l dC dI cI x2 r8 hc8) (cwS 1 hts gX2_find_53 rfl rfl rfl (by decide +kernel) ⟨Nat.le_of_ble_eq_true rfl, Nat.le_of_ble_eq_true rfl⟩) (preRS hK (hP.sub (ws' := []) [] rfl)) rfl rfl hl.1 rfl (lv_room (Nat.le_of_ble_eq_true rfl)) dX2_find_8 ⟨Nat.le_of_ble_eq_true rfl, Nat.le_of_ble_eq_true rfl⟩) hS hP (fun H locs hP hS => ?_)
    refine lv_if_ne (tgt := 16) hx hb dX2_find_11 (by decide) (fun c11 => ?_) (fun c11 => ?_)
    · have hf := it_f c11 hf
      refine lv_aload_n hx hb dX2_find_16 rfl (lv_at hl 0 rfl) ?_
      refine va_get (D := (dC, dI)) (ci := 2) (v := .ref ht0) (C := RX2) (T := TX2) (N := 6) hx hb hts (fun w h => mc (inX2 w h)) hown hK hP 0 rfl rfl 1 (by decide) (hts _ (mc q_55)) (fun _ h9 => h9) rfl dX2_find_17 ?_
      refine lv_iload_n hx hb dX2_find_20 rfl (lv_at hl 1 rfl) ?_
      obtain ⟨r21, hc21, hf⟩ := bn1_e hf
      refine callRi (va_runV (As := [.int x1]) (rest := []) ⟨hx, hb, hml, hown, hts⟩ (cX1_isDirectory_met l dC dI cI ht0 ht1 ht2 ht3 ht4 ht5 ht6 htkd htsz htlk hthm httg htvl x1 r21 hc21) (cwV 1 hts gX2_find_56 rfl rfl rfl (by decide +kernel) ⟨Nat.le_of_ble_eq_true rfl, Nat.le_of_ble_eq_true rfl⟩) (preRV (ci := 1) (q0 := 0) hK (hP.sub (ws' := (wX1 cI ht0 ht1 ht2 ht3 ht4 ht5 ht6 htkd htsz htlk hthm httg htvl)) [1, 2, 3, 4, 5, 6, 7] rfl) rfl rfl) rfl rfl hl.1 rfl (lv_room (Nat.le_of_ble_eq_true rfl)) dX2_find_21 ⟨Nat.le_of_ble_eq_true rfl, Nat.le_of_ble_eq_true rfl⟩) hS hP (fun H locs hP hS => ?_)
      refine lv_if_eq (tgt := 39) hx hb dX2_find_24 (by decide) (fun c24 => ?_) (fun c24 => ?_)
      · have hf := it_t c24 hf
        refine lv_bipush (v := -2) hx hb dX2_find_39 (by decide) ?_
        cases hf
        exact retI hx hb hr hlocks trivial hS dX2_find_41
      · have hf := it_f c24 hf
        refine lv_aload_n hx hb dX2_find_27 rfl (lv_at hl 0 rfl) ?_
        refine va_get (D := (dC, dI)) (ci := 2) (v := .ref ht0) (C := RX2) (T := TX2) (N := 6) hx hb hts (fun w h => mc (inX2 w h)) hown hK hP 0 rfl rfl 1 (by decide) (hts _ (mc q_55)) (fun _ h9 => h9) rfl dX2_find_28 ?_
        refine lv_iload_n hx hb dX2_find_31 rfl (lv_at hl 1 rfl) ?_
        refine lv_iload_n hx hb dX2_find_32 rfl (lv_at hl 2 rfl) ?_
        obtain ⟨r33, hc33, hf⟩ := bn1_e hf
        refine callRi (va_runV (As := [.int x1, .int x2]) (rest := []) ⟨hx, hb, hml, hown, hts⟩ (cX1_target_met l dC dI cI ht0 ht1 ht2 ht3 ht4 ht5 ht6 htkd htsz htlk hthm httg htvl x1 x2 r33 hc33) (cwV 2 hts gX2_find_59 rfl rfl rfl (by decide +kernel) ⟨Nat.le_of_ble_eq_true rfl, Nat.le_of_ble_eq_true rfl⟩) (preRV (ci := 1) (q0 := 0) hK (hP.sub (ws' := (wX1 cI ht0 ht1 ht2 ht3 ht4 ht5 ht6 htkd htsz htlk hthm httg htvl)) [1, 2, 3, 4, 5, 6, 7] rfl) rfl rfl) rfl rfl hl.1 rfl (lv_room (Nat.le_of_ble_eq_true rfl)) dX2_find_33 ⟨Nat.le_of_ble_eq_true rfl, Nat.le_of_ble_eq_true rfl⟩) hS hP (fun H locs hP hS => ?_)
        refine lv_if_ne (tgt := 42) hx hb dX2_find_36 (by decide) (fun c36 => ?_) (fun c36 => ?_)
        · have hf := it_f c36 hf
          refine lv_aload_n hx hb dX2_find_42 rfl (lv_at hl 0 rfl) ?_
          refine va_get (D := (dC, dI)) (ci := 2) (v := .ref ht0) (C := RX2) (T := TX2) (N := 6) hx hb hts (fun w h => mc (inX2 w h)) hown hK hP 0 rfl rfl 1 (by decide) (hts _ (mc q_55)) (fun _ h9 => h9) rfl dX2_find_43 ?_
          refine lv_iload_n hx hb dX2_find_46 rfl (lv_at hl 1 rfl) ?_
          refine lv_iload_n hx hb dX2_find_47 rfl (lv_at hl 2 rfl) ?_
          obtain ⟨r48, hc48, hf⟩ := bn1_e hf
          refine callRi (va_runV (As := [.int x1, .int x2]) (rest := []) ⟨hx, hb, hml, hown, hts⟩ (cX1_target_met l dC dI cI ht0 ht1 ht2 ht3 ht4 ht5 ht6 htkd htsz htlk hthm httg htvl x1 x2 r48 hc48) (cwV 2 hts gX2_find_59 rfl rfl rfl (by decide +kernel) ⟨Nat.le_of_ble_eq_true rfl, Nat.le_of_ble_eq_true rfl⟩) (preRV (ci := 1) (q0 := 0) hK (hP.sub (ws' := (wX1 cI ht0 ht1 ht2 ht3 ht4 ht5 ht6 htkd htsz htlk hthm httg htvl)) [1, 2, 3, 4, 5, 6, 7] rfl) rfl rfl) rfl rfl hl.1 rfl (lv_room (Nat.le_of_ble_eq_true rfl)) dX2_find_48 ⟨Nat.le_of_ble_eq_true rfl, Nat.le_of_ble_eq_true rfl⟩) hS hP (fun H locs hP hS => ?_)
          cases hf
          exact retI hx hb hr hlocks trivial hS dX2_find_51
        · have hf := it_t c36 hf
          refine lv_bipush (v := -2) hx hb dX2_find_39 (by decide) ?_
          cases hf
          exact retI hx hb hr hlocks trivial hS dX2_find_41
    · have hf := it_t c11 hf
      refine lv_iconst (v := -1) hx hb dX2_find_14 (by decide) ?_
      cases hf
      exact retI hx hb hr hlocks trivial hS dX2_find_15
theorem gX2_entry_49 : GoodIn wsX2_entry (wsS RX2 49 yX2_isNode wsX2_isNode) := gIn (memS q_64 q_65 q_1 q_66)
theorem gX2_entry_56 : GoodIn wsX2_entry (wsV RX2 56 RX1 yX1_isDirectory wsX1_isDirectory) := gIn (memV q_70 q_71 q_72 q_3 q_73)
theorem gX2_entry_109 : GoodIn wsX2_entry (wsV RX2 109 RX1 yX1_nthName wsX1_nthName) := gIn (memV q_201 q_202 q_203 q_3 q_204)
set_option maxHeartbeats 4000000 in
set_option maxRecDepth 100000 in
theorem cX2_entry_met (l : Launch) (dC : Nat → ClassId) (dI : Nat → Nat → Nat) (cI : ClassId) (h0 ht0 ht1 ht2 ht3 ht4 ht5 ht6 hu0 hu1 hu2 hu3 hu4 hu5 hu6 hg0 hg1 : Nat) (hlim : Int32) (hkpt : Int32) (hsyn : Int32) (htkd : Nat → Int32) (htsz : Nat → Int32) (htlk : Nat → Int32) (hthm : Nat → Int32) (httg : Nat → Int32) (htvl : Nat → Int32) (hukd : Nat → Int32) (husz : Nat → Int32) (hulk : Nat → Int32) (huhm : Nat → Int32) (hutg : Nat → Int32) (huvl : Nat → Int32) (hgln : Int32) (hgrw : Nat → Int32) (x1 : Int32) (x2 : Int32) (r : Int32) (hf : fX2_entry x1 x2 htkd httg = some r) : Met l yX2_entry wsX2_entry ({ frames := 2, cells := 0, slots := 0, locals := 46 } : Room) (pcR [.ref h0, .int x1, .int x2] (dC, dI) vwCl [(cI, .int)] (wX2 cI h0 ht0 ht1 ht2 ht3 ht4 ht5 ht6 hu0 hu1 hu2 hu3 hu4 hu5 hu6 hg0 hg1 hlim hkpt hsyn htkd htsz htlk hthm httg htvl hukd husz hulk huhm hutg huvl hgln hgrw)) (qI r pT aN) 0 0 aN := by
  refine Met.ofW (cc := cX2_entry) (maxL := 3) (ret := (some .int)) (by decide) rfl ?_
  intro p e s m args below meth c s₁ B hml hv
  obtain ⟨rfl, hP, hK⟩ := hv
  have hx := B.exec
  have hb := B.bytes
  have hr := B.returns
  have hts := atoms_spec (ws := wsX2_entry) B.pre
  have hown : s.vm.findClass RX2 = some m.cls := findClass_of_methodNamed B.named
  have hlocks := B.notSynchronized
  have hS : va_S aN s.heap s.heap [] := va_S.rf
  have hl := lv_entry ([.ref h0, .int x1, .int x2]) (n := 3) (Nat.le_of_ble_eq_true rfl)
  rw [lg_entry_eq]
  generalize (lg_sl ([.ref h0, .int x1, .int x2]) ++ List.replicate (3 - (lg_sl ([.ref h0, .int x1, .int x2])).length) Slot.unset).toArray = ls at hl ⊢
  have hl : lv_has ls 3 [(0, .ref h0), (1, .int x1), (2, .int x2)] := hl
  unfold fX2_entry at hf
  refine lv_iload_n hx hb dX2_entry_0 rfl (lv_at hl 1 rfl) ?_
  obtain ⟨r1, hc1, hf⟩ := bn1_e hf
  refine callRi (va_runS (As := [.int x1]) (rest := []) ⟨hx, hb, hml, hown, hts⟩ (cX2_isNode_met l dC dI cI x1 r1 hc1) (cwS 1 hts gX2_entry_49 rfl rfl rfl (by decide +kernel) ⟨Nat.le_of_ble_eq_true rfl, Nat.le_of_ble_eq_true rfl⟩) (preRS hK (hP.sub (ws' := []) [] rfl)) rfl rfl hl.1 rfl (lv_room (Nat.le_of_ble_eq_true rfl)) dX2_entry_1 ⟨Nat.le_of_ble_eq_true rfl, Nat.le_of_ble_eq_true rfl⟩) hS hP (fun H locs hP hS => ?_)
  refine lv_if_ne (tgt := 9) hx hb dX2_entry_4 (by decide) (fun c4 => ?_) (fun c4 => ?_)
  · have hf := it_f c4 hf
    refine lv_aload_n hx hb dX2_entry_9 rfl (lv_at hl 0 rfl) ?_
    refine va_get (D := (dC, dI)) (ci := 2) (v := .ref ht0) (C := RX2) (T := TX2) (N := 6) hx hb hts (fun w h => mc (inX2 w h)) hown hK hP 0 rfl rfl 1 (by decide) (hts _ (mc q_55)) (fun _ h9 => h9) rfl dX2_entry_10 ?_
    refine lv_iload_n hx hb dX2_entry_13 rfl (lv_at hl 1 rfl) ?_
    obtain ⟨r14, hc14, hf⟩ := bn1_e hf
    refine callRi (va_runV (As := [.int x1]) (rest := []) ⟨hx, hb, hml, hown, hts⟩ (cX1_isDirectory_met l dC dI cI ht0 ht1 ht2 ht3 ht4 ht5 ht6 htkd htsz htlk hthm httg htvl x1 r14 hc14) (cwV 1 hts gX2_entry_56 rfl rfl rfl (by decide +kernel) ⟨Nat.le_of_ble_eq_true rfl, Nat.le_of_ble_eq_true rfl⟩) (preRV (ci := 1) (q0 := 0) hK (hP.sub (ws' := (wX1 cI ht0 ht1 ht2 ht3 ht4 ht5 ht6 htkd htsz htlk hthm httg htvl)) [1, 2, 3, 4, 5, 6, 7] rfl) rfl rfl) rfl rfl hl.1 rfl (lv_room (Nat.le_of_ble_eq_true rfl)) dX2_entry_14 ⟨Nat.le_of_ble_eq_true rfl, Nat.le_of_ble_eq_true rfl⟩) hS hP (fun H locs hP hS => ?_)
    refine lv_if_ne (tgt := 23) hx hb dX2_entry_17 (by decide) (fun c17 => ?_) (fun c17 => ?_)
    · have hf := it_f c17 hf
      refine lv_aload_n hx hb dX2_entry_23 rfl (lv_at hl 0 rfl) ?_
      refine va_get (D := (dC, dI)) (ci := 2) (v := .ref ht0) (C := RX2) (T := TX2) (N := 6) hx hb hts (fun w h => mc (inX2 w h)) hown hK hP 0 rfl rfl 1 (by decide) (hts _ (mc q_55)) (fun _ h9 => h9) rfl dX2_entry_24 ?_
      refine lv_iload_n hx hb dX2_entry_27 rfl (lv_at hl 1 rfl) ?_
      refine lv_iload_n hx hb dX2_entry_28 rfl (lv_at hl 2 rfl) ?_
      obtain ⟨r29, hc29, hf⟩ := bn1_e hf
      refine callRi (va_runV (As := [.int x1, .int x2]) (rest := []) ⟨hx, hb, hml, hown, hts⟩ (cX1_nthName_met l dC dI cI ht0 ht1 ht2 ht3 ht4 ht5 ht6 htkd htsz htlk hthm httg htvl x1 x2 r29 hc29) (cwV 2 hts gX2_entry_109 rfl rfl rfl (by decide +kernel) ⟨Nat.le_of_ble_eq_true rfl, Nat.le_of_ble_eq_true rfl⟩) (preRV (ci := 1) (q0 := 0) hK (hP.sub (ws' := (wX1 cI ht0 ht1 ht2 ht3 ht4 ht5 ht6 htkd htsz htlk hthm httg htvl)) [1, 2, 3, 4, 5, 6, 7] rfl) rfl rfl) rfl rfl hl.1 rfl (lv_room (Nat.le_of_ble_eq_true rfl)) dX2_entry_29 ⟨Nat.le_of_ble_eq_true rfl, Nat.le_of_ble_eq_true rfl⟩) hS hP (fun H locs hP hS => ?_)
      cases hf
      exact retI hx hb hr hlocks trivial hS dX2_entry_32
    · have hf := it_t c17 hf
      refine lv_bipush (v := -2) hx hb dX2_entry_20 (by decide) ?_
      cases hf
      exact retI hx hb hr hlocks trivial hS dX2_entry_22
  · have hf := it_t c4 hf
    refine lv_iconst (v := -1) hx hb dX2_entry_7 (by decide) ?_
    cases hf
    exact retI hx hb hr hlocks trivial hS dX2_entry_8
theorem gX2_read_49 : GoodIn wsX2_read (wsS RX2 49 yX2_isNode wsX2_isNode) := gIn (memS q_64 q_65 q_1 q_66)
theorem gX2_read_80 : GoodIn wsX2_read (wsV RX2 80 RX1 yX1_isFile wsX1_isFile) := gIn (memV q_159 q_51 q_52 q_3 q_53)
theorem gX2_read_65 : GoodIn wsX2_read (wsV RX2 65 RX1 yX1_size wsX1_size) := gIn (memV q_82 q_83 q_84 q_3 q_85)
theorem gX2_read_114 : GoodIn wsX2_read (wsV RX2 114 RX1 yX1_value wsX1_value) := gIn (memV q_210 q_211 q_212 q_3 q_213)
set_option maxHeartbeats 4000000 in
set_option maxRecDepth 100000 in
theorem cX2_read_met (l : Launch) (dC : Nat → ClassId) (dI : Nat → Nat → Nat) (cI : ClassId) (h0 ht0 ht1 ht2 ht3 ht4 ht5 ht6 hu0 hu1 hu2 hu3 hu4 hu5 hu6 hg0 hg1 : Nat) (hlim : Int32) (hkpt : Int32) (hsyn : Int32) (htkd : Nat → Int32) (htsz : Nat → Int32) (htlk : Nat → Int32) (hthm : Nat → Int32) (httg : Nat → Int32) (htvl : Nat → Int32) (hukd : Nat → Int32) (husz : Nat → Int32) (hulk : Nat → Int32) (huhm : Nat → Int32) (hutg : Nat → Int32) (huvl : Nat → Int32) (hgln : Int32) (hgrw : Nat → Int32) (x1 : Int32) (x2 : Int32) (r : Int64) (hf : fX2_read x1 x2 htkd htsz htvl = some r) : Met l yX2_read wsX2_read ({ frames := 1, cells := 0, slots := 0, locals := 22 } : Room) (pcR [.ref h0, .int x1, .int x2] (dC, dI) vwCl [(cI, .int)] (wX2 cI h0 ht0 ht1 ht2 ht3 ht4 ht5 ht6 hu0 hu1 hu2 hu3 hu4 hu5 hu6 hg0 hg1 hlim hkpt hsyn htkd htsz htlk hthm httg htvl hukd husz hulk huhm hutg huvl hgln hgrw)) (qL r pT aN) 0 0 aN := by
  refine Met.ofW (cc := cX2_read) (maxL := 3) (ret := (some .long)) (by decide) rfl ?_
  intro p e s m args below meth c s₁ B hml hv
  obtain ⟨rfl, hP, hK⟩ := hv
  have hx := B.exec
  have hb := B.bytes
  have hr := B.returns
  have hts := atoms_spec (ws := wsX2_read) B.pre
  have hown : s.vm.findClass RX2 = some m.cls := findClass_of_methodNamed B.named
  have hlocks := B.notSynchronized
  have hS : va_S aN s.heap s.heap [] := va_S.rf
  have hl := lv_entry ([.ref h0, .int x1, .int x2]) (n := 3) (Nat.le_of_ble_eq_true rfl)
  rw [lg_entry_eq]
  generalize (lg_sl ([.ref h0, .int x1, .int x2]) ++ List.replicate (3 - (lg_sl ([.ref h0, .int x1, .int x2])).length) Slot.unset).toArray = ls at hl ⊢
  have hl : lv_has ls 3 [(0, .ref h0), (1, .int x1), (2, .int x2)] := hl
  unfold fX2_read at hf
  refine lv_iload_n hx hb dX2_read_0 rfl (lv_at hl 1 rfl) ?_
  obtain ⟨r1, hc1, hf⟩ := bn1_e hf
  refine callRi (va_runS (As := [.int x1]) (rest := []) ⟨hx, hb, hml, hown, hts⟩ (cX2_isNode_met l dC dI cI x1 r1 hc1) (cwS 1 hts gX2_read_49 rfl rfl rfl (by decide +kernel) ⟨Nat.le_of_ble_eq_true rfl, Nat.le_of_ble_eq_true rfl⟩) (preRS hK (hP.sub (ws' := []) [] rfl)) rfl rfl hl.1 rfl (lv_room (Nat.le_of_ble_eq_true rfl)) dX2_read_1 ⟨Nat.le_of_ble_eq_true rfl, Nat.le_of_ble_eq_true rfl⟩) hS hP (fun H locs hP hS => ?_)
  refine lv_if_eq (tgt := 18) hx hb dX2_read_4 (by decide) (fun c4 => ?_) (fun c4 => ?_)
  · have hf := it_t c4 hf
    refine lv_ldc2 hx hb hown (hts _ (mc q_209)) dX2_read_18 ?_
    cases hf
    exact retL hx hb hr hlocks trivial hS dX2_read_21
  · have hf := it_f c4 hf
    refine lv_aload_n hx hb dX2_read_7 rfl (lv_at hl 0 rfl) ?_
    refine va_get (D := (dC, dI)) (ci := 2) (v := .ref ht0) (C := RX2) (T := TX2) (N := 6) hx hb hts (fun w h => mc (inX2 w h)) hown hK hP 0 rfl rfl 1 (by decide) (hts _ (mc q_55)) (fun _ h9 => h9) rfl dX2_read_8 ?_
    refine lv_iload_n hx hb dX2_read_11 rfl (lv_at hl 1 rfl) ?_
    obtain ⟨r12, hc12, hf⟩ := bn1_e hf
    refine callRi (va_runV (As := [.int x1]) (rest := []) ⟨hx, hb, hml, hown, hts⟩ (cX1_isFile_met l dC dI cI ht0 ht1 ht2 ht3 ht4 ht5 ht6 htkd htsz htlk hthm httg htvl x1 r12 hc12) (cwV 1 hts gX2_read_80 rfl rfl rfl (by decide +kernel) ⟨Nat.le_of_ble_eq_true rfl, Nat.le_of_ble_eq_true rfl⟩) (preRV (ci := 1) (q0 := 0) hK (hP.sub (ws' := (wX1 cI ht0 ht1 ht2 ht3 ht4 ht5 ht6 htkd htsz htlk hthm httg htvl)) [1, 2, 3, 4, 5, 6, 7] rfl) rfl rfl) rfl rfl hl.1 rfl (lv_room (Nat.le_of_ble_eq_true rfl)) dX2_read_12 ⟨Nat.le_of_ble_eq_true rfl, Nat.le_of_ble_eq_true rfl⟩) hS hP (fun H locs hP hS => ?_)
    refine lv_if_ne (tgt := 22) hx hb dX2_read_15 (by decide) (fun c15 => ?_) (fun c15 => ?_)
    · have hf := it_f c15 hf
      refine lv_iload_n hx hb dX2_read_22 rfl (lv_at hl 2 rfl) ?_
      refine lv_if_lt (tgt := 38) hx hb dX2_read_23 (by decide) (fun c23 => ?_) (fun c23 => ?_)
      · have hf := it_t c23 hf
        refine lv_ldc2 hx hb hown (hts _ (mc q_209)) dX2_read_38 ?_
        cases hf
        exact retL hx hb hr hlocks trivial hS dX2_read_41
      · have hf := it_f c23 hf
        refine lv_iload_n hx hb dX2_read_26 rfl (lv_at hl 2 rfl) ?_
        refine lv_aload_n hx hb dX2_read_27 rfl (lv_at hl 0 rfl) ?_
        refine va_get (D := (dC, dI)) (ci := 2) (v := .ref ht0) (C := RX2) (T := TX2) (N := 6) hx hb hts (fun w h => mc (inX2 w h)) hown hK hP 0 rfl rfl 1 (by decide) (hts _ (mc q_55)) (fun _ h9 => h9) rfl dX2_read_28 ?_
        refine lv_iload_n hx hb dX2_read_31 rfl (lv_at hl 1 rfl) ?_
        obtain ⟨r32, hc32, hf⟩ := bn1_e hf
        refine callRi (va_runV (As := [.int x1]) (rest := [.int x2]) ⟨hx, hb, hml, hown, hts⟩ (cX1_size_met l dC dI cI ht0 ht1 ht2 ht3 ht4 ht5 ht6 htkd htsz htlk hthm httg htvl x1 r32 hc32) (cwV 1 hts gX2_read_65 rfl rfl rfl (by decide +kernel) ⟨Nat.le_of_ble_eq_true rfl, Nat.le_of_ble_eq_true rfl⟩) (preRV (ci := 1) (q0 := 0) hK (hP.sub (ws' := (wX1 cI ht0 ht1 ht2 ht3 ht4 ht5 ht6 htkd htsz htlk hthm httg htvl)) [1, 2, 3, 4, 5, 6, 7] rfl) rfl rfl) rfl rfl hl.1 rfl (lv_room (Nat.le_of_ble_eq_true rfl)) dX2_read_32 ⟨Nat.le_of_ble_eq_true rfl, Nat.le_of_ble_eq_true rfl⟩) hS hP (fun H locs hP hS => ?_)
        refine lv_icmp_lt (tgt := 42) hx hb dX2_read_35 (by decide) (fun c35 => ?_) (fun c35 => ?_)
        · have hf := it_t c35 hf
          refine lv_aload_n hx hb dX2_read_42 rfl (lv_at hl 0 rfl) ?_
          refine va_get (D := (dC, dI)) (ci := 2) (v := .ref ht0) (C := RX2) (T := TX2) (N := 6) hx hb hts (fun w h => mc (inX2 w h)) hown hK hP 0 rfl rfl 1 (by decide) (hts _ (mc q_55)) (fun _ h9 => h9) rfl dX2_read_43 ?_
          refine lv_iload_n hx hb dX2_read_46 rfl (lv_at hl 1 rfl) ?_
          refine lv_iload_n hx hb dX2_read_47 rfl (lv_at hl 2 rfl) ?_
          obtain ⟨r48, hc48, hf⟩ := bn1_e hf
          refine callRi (va_runV (As := [.int x1, .int x2]) (rest := []) ⟨hx, hb, hml, hown, hts⟩ (cX1_value_met l dC dI cI ht0 ht1 ht2 ht3 ht4 ht5 ht6 htkd htsz htlk hthm httg htvl x1 x2 r48 hc48) (cwV 2 hts gX2_read_114 rfl rfl rfl (by decide +kernel) ⟨Nat.le_of_ble_eq_true rfl, Nat.le_of_ble_eq_true rfl⟩) (preRV (ci := 1) (q0 := 0) hK (hP.sub (ws' := (wX1 cI ht0 ht1 ht2 ht3 ht4 ht5 ht6 htkd htsz htlk hthm httg htvl)) [1, 2, 3, 4, 5, 6, 7] rfl) rfl rfl) rfl rfl hl.1 rfl (lv_room (Nat.le_of_ble_eq_true rfl)) dX2_read_48 ⟨Nat.le_of_ble_eq_true rfl, Nat.le_of_ble_eq_true rfl⟩) hS hP (fun H locs hP hS => ?_)
          obtain ⟨v51, ev51, hf⟩ := slet_e hf
          refine lv_i2l (v := v51) hx hb dX2_read_51 ev51.symm ?_
          cases hf
          exact retL hx hb hr hlocks trivial hS dX2_read_52
        · have hf := it_f c35 hf
          refine lv_ldc2 hx hb hown (hts _ (mc q_209)) dX2_read_38 ?_
          cases hf
          exact retL hx hb hr hlocks trivial hS dX2_read_41
    · have hf := it_t c15 hf
      refine lv_ldc2 hx hb hown (hts _ (mc q_209)) dX2_read_18 ?_
      cases hf
      exact retL hx hb hr hlocks trivial hS dX2_read_21
theorem gX2_tell_49 : GoodIn wsX2_tell (wsS RX2 49 yX2_isNode wsX2_isNode) := gIn (memS q_64 q_65 q_1 q_66)
theorem gX2_tell_117 : GoodIn wsX2_tell (wsV RX2 117 RX1 yX1_kind wsX1_kind) := gIn (memV q_218 q_219 q_220 q_3 q_221)
theorem gX2_tell_83 : GoodIn wsX2_tell (wsV RX2 83 RX1 yX1_links wsX1_links) := gIn (memV q_164 q_165 q_166 q_3 q_167)
theorem gX2_tell_65 : GoodIn wsX2_tell (wsV RX2 65 RX1 yX1_size wsX1_size) := gIn (memV q_82 q_83 q_84 q_3 q_85)
set_option maxHeartbeats 4000000 in
set_option maxRecDepth 100000 in
theorem cX2_tell_met (l : Launch) (dC : Nat → ClassId) (dI : Nat → Nat → Nat) (cI : ClassId) (h0 ht0 ht1 ht2 ht3 ht4 ht5 ht6 hu0 hu1 hu2 hu3 hu4 hu5 hu6 hg0 hg1 : Nat) (hlim : Int32) (hkpt : Int32) (hsyn : Int32) (htkd : Nat → Int32) (htsz : Nat → Int32) (htlk : Nat → Int32) (hthm : Nat → Int32) (httg : Nat → Int32) (htvl : Nat → Int32) (hukd : Nat → Int32) (husz : Nat → Int32) (hulk : Nat → Int32) (huhm : Nat → Int32) (hutg : Nat → Int32) (huvl : Nat → Int32) (hgln : Int32) (hgrw : Nat → Int32) (x1 : Int32) (x2 : Int32) (r : Int32) (hf : fX2_tell x1 x2 htkd htsz htlk = some r) : Met l yX2_tell wsX2_tell ({ frames := 1, cells := 0, slots := 0, locals := 21 } : Room) (pcR [.ref h0, .int x1, .int x2] (dC, dI) vwCl [(cI, .int)] (wX2 cI h0 ht0 ht1 ht2 ht3 ht4 ht5 ht6 hu0 hu1 hu2 hu3 hu4 hu5 hu6 hg0 hg1 hlim hkpt hsyn htkd htsz htlk hthm httg htvl hukd husz hulk huhm hutg huvl hgln hgrw)) (qI r pT aN) 0 0 aN := by
  refine Met.ofW (cc := cX2_tell) (maxL := 3) (ret := (some .int)) (by decide) rfl ?_
  intro p e s m args below meth c s₁ B hml hv
  obtain ⟨rfl, hP, hK⟩ := hv
  have hx := B.exec
  have hb := B.bytes
  have hr := B.returns
  have hts := atoms_spec (ws := wsX2_tell) B.pre
  have hown : s.vm.findClass RX2 = some m.cls := findClass_of_methodNamed B.named
  have hlocks := B.notSynchronized
  have hS : va_S aN s.heap s.heap [] := va_S.rf
  have hl := lv_entry ([.ref h0, .int x1, .int x2]) (n := 3) (Nat.le_of_ble_eq_true rfl)
  rw [lg_entry_eq]
  generalize (lg_sl ([.ref h0, .int x1, .int x2]) ++ List.replicate (3 - (lg_sl ([.ref h0, .int x1, .int x2])).length) Slot.unset).toArray = ls at hl ⊢
  have hl : lv_has ls 3 [(0, .ref h0), (1, .int x1), (2, .int x2)] := hl
  unfold fX2_tell at hf
  refine lv_iload_n hx hb dX2_tell_0 rfl (lv_at hl 1 rfl) ?_
  obtain ⟨r1, hc1, hf⟩ := bn1_e hf
  refine callRi (va_runS (As := [.int x1]) (rest := []) ⟨hx, hb, hml, hown, hts⟩ (cX2_isNode_met l dC dI cI x1 r1 hc1) (cwS 1 hts gX2_tell_49 rfl rfl rfl (by decide +kernel) ⟨Nat.le_of_ble_eq_true rfl, Nat.le_of_ble_eq_true rfl⟩) (preRS hK (hP.sub (ws' := []) [] rfl)) rfl rfl hl.1 rfl (lv_room (Nat.le_of_ble_eq_true rfl)) dX2_tell_1 ⟨Nat.le_of_ble_eq_true rfl, Nat.le_of_ble_eq_true rfl⟩) hS hP (fun H locs hP hS => ?_)
  refine lv_if_eq (tgt := 16) hx hb dX2_tell_4 (by decide) (fun c4 => ?_) (fun c4 => ?_)
  · have hf := it_t c4 hf
    refine lv_iconst (v := -1) hx hb dX2_tell_16 (by decide) ?_
    cases hf
    exact retI hx hb hr hlocks trivial hS dX2_tell_17
  · have hf := it_f c4 hf
    refine lv_iload_n hx hb dX2_tell_7 rfl (lv_at hl 2 rfl) ?_
    refine lv_if_lt (tgt := 16) hx hb dX2_tell_8 (by decide) (fun c8 => ?_) (fun c8 => ?_)
    · have hf := it_t c8 hf
      refine lv_iconst (v := -1) hx hb dX2_tell_16 (by decide) ?_
      cases hf
      exact retI hx hb hr hlocks trivial hS dX2_tell_17
    · have hf := it_f c8 hf
      refine lv_iload_n hx hb dX2_tell_11 rfl (lv_at hl 2 rfl) ?_
      refine lv_iconst (v := 2) hx hb dX2_tell_12 (by decide) ?_
      refine lv_icmp_le (tgt := 18) hx hb dX2_tell_13 (by decide) (fun c13 => ?_) (fun c13 => ?_)
      · have hf := it_t c13 hf
        refine lv_iload_n hx hb dX2_tell_18 rfl (lv_at hl 2 rfl) ?_
        refine lv_if_ne (tgt := 31) hx hb dX2_tell_19 (by decide) (fun c19 => ?_) (fun c19 => ?_)
        · have hf := it_f c19 hf
          refine lv_aload_n hx hb dX2_tell_31 rfl (lv_at hl 0 rfl) ?_
          refine va_get (D := (dC, dI)) (ci := 2) (v := .ref ht0) (C := RX2) (T := TX2) (N := 6) hx hb hts (fun w h => mc (inX2 w h)) hown hK hP 0 rfl rfl 1 (by decide) (hts _ (mc q_55)) (fun _ h9 => h9) rfl dX2_tell_32 ?_
          refine lv_iload_n hx hb dX2_tell_35 rfl (lv_at hl 1 rfl) ?_
          obtain ⟨r36, hc36, hf⟩ := bn1_e hf
          refine callRi (va_runV (As := [.int x1]) (rest := []) ⟨hx, hb, hml, hown, hts⟩ (cX1_kind_met l dC dI cI ht0 ht1 ht2 ht3 ht4 ht5 ht6 htkd htsz htlk hthm httg htvl x1 r36 hc36) (cwV 1 hts gX2_tell_117 rfl rfl rfl (by decide +kernel) ⟨Nat.le_of_ble_eq_true rfl, Nat.le_of_ble_eq_true rfl⟩) (preRV (ci := 1) (q0 := 0) hK (hP.sub (ws' := (wX1 cI ht0 ht1 ht2 ht3 ht4 ht5 ht6 htkd htsz htlk hthm httg htvl)) [1, 2, 3, 4, 5, 6, 7] rfl) rfl rfl) rfl rfl hl.1 rfl (lv_room (Nat.le_of_ble_eq_true rfl)) dX2_tell_36 ⟨Nat.le_of_ble_eq_true rfl, Nat.le_of_ble_eq_true rfl⟩) hS hP (fun H locs hP hS => ?_)
          refine lv_if_ne (tgt := 45) hx hb dX2_tell_39 (by decide) (fun c39 => ?_) (fun c39 => ?_)
          · have hf := it_f c39 hf
            refine lv_iload_n hx hb dX2_tell_45 rfl (lv_at hl 2 rfl) ?_
            refine lv_iconst (v := 1) hx hb dX2_tell_46 (by decide) ?_
            refine lv_icmp_ne (tgt := 61) hx hb dX2_tell_47 (by decide) (fun c47 => ?_) (fun c47 => ?_)
            · have hf := it_f c47 hf
              refine lv_aload_n hx hb dX2_tell_61 rfl (lv_at hl 0 rfl) ?_
              refine va_get (D := (dC, dI)) (ci := 2) (v := .ref ht0) (C := RX2) (T := TX2) (N := 6) hx hb hts (fun w h => mc (inX2 w h)) hown hK hP 0 rfl rfl 1 (by decide) (hts _ (mc q_55)) (fun _ h9 => h9) rfl dX2_tell_62 ?_
              refine lv_iload_n hx hb dX2_tell_65 rfl (lv_at hl 1 rfl) ?_
              obtain ⟨r66, hc66, hf⟩ := bn1_e hf
              refine callRi (va_runV (As := [.int x1]) (rest := []) ⟨hx, hb, hml, hown, hts⟩ (cX1_links_met l dC dI cI ht0 ht1 ht2 ht3 ht4 ht5 ht6 htkd htsz htlk hthm httg htvl x1 r66 hc66) (cwV 1 hts gX2_tell_83 rfl rfl rfl (by decide +kernel) ⟨Nat.le_of_ble_eq_true rfl, Nat.le_of_ble_eq_true rfl⟩) (preRV (ci := 1) (q0 := 0) hK (hP.sub (ws' := (wX1 cI ht0 ht1 ht2 ht3 ht4 ht5 ht6 htkd htsz htlk hthm httg htvl)) [1, 2, 3, 4, 5, 6, 7] rfl) rfl rfl) rfl rfl hl.1 rfl (lv_room (Nat.le_of_ble_eq_true rfl)) dX2_tell_66 ⟨Nat.le_of_ble_eq_true rfl, Nat.le_of_ble_eq_true rfl⟩) hS hP (fun H locs hP hS => ?_)
              cases hf
              exact retI hx hb hr hlocks trivial hS dX2_tell_69
            · have hf := it_t c47 hf
              refine lv_aload_n hx hb dX2_tell_50 rfl (lv_at hl 0 rfl) ?_
              refine va_get (D := (dC, dI)) (ci := 2) (v := .ref ht0) (C := RX2) (T := TX2) (N := 6) hx hb hts (fun w h => mc (inX2 w h)) hown hK hP 0 rfl rfl 1 (by decide) (hts _ (mc q_55)) (fun _ h9 => h9) rfl dX2_tell_51 ?_
              refine lv_iload_n hx hb dX2_tell_54 rfl (lv_at hl 1 rfl) ?_
              obtain ⟨r55, hc55, hf⟩ := bn1_e hf
              refine callRi (va_runV (As := [.int x1]) (rest := []) ⟨hx, hb, hml, hown, hts⟩ (cX1_size_met l dC dI cI ht0 ht1 ht2 ht3 ht4 ht5 ht6 htkd htsz htlk hthm httg htvl x1 r55 hc55) (cwV 1 hts gX2_tell_65 rfl rfl rfl (by decide +kernel) ⟨Nat.le_of_ble_eq_true rfl, Nat.le_of_ble_eq_true rfl⟩) (preRV (ci := 1) (q0 := 0) hK (hP.sub (ws' := (wX1 cI ht0 ht1 ht2 ht3 ht4 ht5 ht6 htkd htsz htlk hthm httg htvl)) [1, 2, 3, 4, 5, 6, 7] rfl) rfl rfl) rfl rfl hl.1 rfl (lv_room (Nat.le_of_ble_eq_true rfl)) dX2_tell_55 ⟨Nat.le_of_ble_eq_true rfl, Nat.le_of_ble_eq_true rfl⟩) hS hP (fun H locs hP hS => ?_)
              refine lv_goto (tgt := 69) hx hb dX2_tell_58 (by decide) ?_
              cases hf
              exact retI hx hb hr hlocks trivial hS dX2_tell_69
          · have hf := it_t c39 hf
            refine lv_bipush (v := -2) hx hb dX2_tell_42 (by decide) ?_
            cases hf
            exact retI hx hb hr hlocks trivial hS dX2_tell_44
        · have hf := it_t c19 hf
          refine lv_aload_n hx hb dX2_tell_22 rfl (lv_at hl 0 rfl) ?_
          refine va_get (D := (dC, dI)) (ci := 2) (v := .ref ht0) (C := RX2) (T := TX2) (N := 6) hx hb hts (fun w h => mc (inX2 w h)) hown hK hP 0 rfl rfl 1 (by decide) (hts _ (mc q_55)) (fun _ h9 => h9) rfl dX2_tell_23 ?_
          refine lv_iload_n hx hb dX2_tell_26 rfl (lv_at hl 1 rfl) ?_
          obtain ⟨r27, hc27, hf⟩ := bn1_e hf
          refine callRi (va_runV (As := [.int x1]) (rest := []) ⟨hx, hb, hml, hown, hts⟩ (cX1_kind_met l dC dI cI ht0 ht1 ht2 ht3 ht4 ht5 ht6 htkd htsz htlk hthm httg htvl x1 r27 hc27) (cwV 1 hts gX2_tell_117 rfl rfl rfl (by decide +kernel) ⟨Nat.le_of_ble_eq_true rfl, Nat.le_of_ble_eq_true rfl⟩) (preRV (ci := 1) (q0 := 0) hK (hP.sub (ws' := (wX1 cI ht0 ht1 ht2 ht3 ht4 ht5 ht6 htkd htsz htlk hthm httg htvl)) [1, 2, 3, 4, 5, 6, 7] rfl) rfl rfl) rfl rfl hl.1 rfl (lv_room (Nat.le_of_ble_eq_true rfl)) dX2_tell_27 ⟨Nat.le_of_ble_eq_true rfl, Nat.le_of_ble_eq_true rfl⟩) hS hP (fun H locs hP hS => ?_)
          cases hf
          exact retI hx hb hr hlocks trivial hS dX2_tell_30
      · have hf := it_f c13 hf
        refine lv_iconst (v := -1) hx hb dX2_tell_16 (by decide) ?_
        cases hf
        exact retI hx hb hr hlocks trivial hS dX2_tell_17
theorem gX2_count_39 : GoodIn wsX2_count (wsV RX2 39 RX1 yX1_live wsX1_live) := gIn (memV q_42 q_43 q_44 q_3 q_45)
theorem gX2_count_95 : GoodIn wsX2_count (wsV RX2 95 RX0 yX0_length wsX0_length) := gIn (memV q_116 q_117 q_118 q_4 q_119)
theorem gX2_count_120 : GoodIn wsX2_count (wsV RX2 120 RX1 yX1_nodesThere wsX1_nodesThere) := gIn (memV q_226 q_227 q_228 q_3 q_229)
set_option maxHeartbeats 4000000 in
set_option maxRecDepth 100000 in
theorem cX2_count_met (l : Launch) (dC : Nat → ClassId) (dI : Nat → Nat → Nat) (cI : ClassId) (h0 ht0 ht1 ht2 ht3 ht4 ht5 ht6 hu0 hu1 hu2 hu3 hu4 hu5 hu6 hg0 hg1 : Nat) (hlim : Int32) (hkpt : Int32) (hsyn : Int32) (htkd : Nat → Int32) (htsz : Nat → Int32) (htlk : Nat → Int32) (hthm : Nat → Int32) (httg : Nat → Int32) (htvl : Nat → Int32) (hukd : Nat → Int32) (husz : Nat → Int32) (hulk : Nat → Int32) (huhm : Nat → Int32) (hutg : Nat → Int32) (huvl : Nat → Int32) (hgln : Int32) (hgrw : Nat → Int32) (x1 : Int32) (r : Int32) (hf : fX2_count x1 hlim hkpt hsyn htkd htsz hgln = some r) : Met l yX2_count wsX2_count ({ frames := 3, cells := 0, slots := 0, locals := 64 } : Room) (pcR [.ref h0, .int x1] (dC, dI) vwCl [(cI, .int)] (wX2 cI h0 ht0 ht1 ht2 ht3 ht4 ht5 ht6 hu0 hu1 hu2 hu3 hu4 hu5 hu6 hg0 hg1 hlim hkpt hsyn htkd htsz htlk hthm httg htvl hukd husz hulk huhm hutg huvl hgln hgrw)) (qI r pT aN) 0 0 aN := by
  refine Met.ofW (cc := cX2_count) (maxL := 2) (ret := (some .int)) (by decide) rfl ?_
  intro p e s m args below meth c s₁ B hml hv
  obtain ⟨rfl, hP, hK⟩ := hv
  have hx := B.exec
  have hb := B.bytes
  have hr := B.returns
  have hts := atoms_spec (ws := wsX2_count) B.pre
  have hown : s.vm.findClass RX2 = some m.cls := findClass_of_methodNamed B.named
  have hlocks := B.notSynchronized
  have hS : va_S aN s.heap s.heap [] := va_S.rf
  have hl := lv_entry ([.ref h0, .int x1]) (n := 2) (Nat.le_of_ble_eq_true rfl)
  rw [lg_entry_eq]
  generalize (lg_sl ([.ref h0, .int x1]) ++ List.replicate (2 - (lg_sl ([.ref h0, .int x1])).length) Slot.unset).toArray = ls at hl ⊢
  have hl : lv_has ls 2 [(0, .ref h0), (1, .int x1)] := hl
  unfold fX2_count at hf
  refine lv_iload_n hx hb dX2_count_0 rfl (lv_at hl 1 rfl) ?_
  by_cases c1_0 : x1 = 0
  · have hf := it_t c1_0 hf
    refine lv_tableIn (tgt := 40) hx hb dX2_count_1 (by rw [c1_0]; decide) (by rw [c1_0]; decide) (off := 39) (by rw [c1_0]; decide) (by decide) ?_
    refine lv_aload_n hx hb dX2_count_40 rfl (lv_at hl 0 rfl) ?_
    refine va_get (D := (dC, dI)) (ci := 2) (v := .ref ht0) (C := RX2) (T := TX2) (N := 6) hx hb hts (fun w h => mc (inX2 w h)) hown hK hP 0 rfl rfl 1 (by decide) (hts _ (mc q_55)) (fun _ h9 => h9) rfl dX2_count_41 ?_
    obtain ⟨r44, hc44, hf⟩ := bn1_e hf
    refine callRi (va_runV (As := []) (rest := []) ⟨hx, hb, hml, hown, hts⟩ (cX1_live_met l dC dI cI ht0 ht1 ht2 ht3 ht4 ht5 ht6 htkd htsz htlk hthm httg htvl r44 hc44) (cwV 0 hts gX2_count_39 rfl rfl rfl (by decide +kernel) ⟨Nat.le_of_ble_eq_true rfl, Nat.le_of_ble_eq_true rfl⟩) (preRV (ci := 1) (q0 := 0) hK (hP.sub (ws' := (wX1 cI ht0 ht1 ht2 ht3 ht4 ht5 ht6 htkd htsz htlk hthm httg htvl)) [1, 2, 3, 4, 5, 6, 7] rfl) rfl rfl) rfl rfl hl.1 rfl (lv_room (Nat.le_of_ble_eq_true rfl)) dX2_count_44 ⟨Nat.le_of_ble_eq_true rfl, Nat.le_of_ble_eq_true rfl⟩) hS hP (fun H locs hP hS => ?_)
    cases hf
    exact retI hx hb hr hlocks trivial hS dX2_count_47
  have hf := it_f c1_0 hf
  by_cases c1_1 : x1 = 1
  · have hf := it_t c1_1 hf
    refine lv_tableIn (tgt := 48) hx hb dX2_count_1 (by rw [c1_1]; decide) (by rw [c1_1]; decide) (off := 47) (by rw [c1_1]; decide) (by decide) ?_
    refine lv_aload_n hx hb dX2_count_48 rfl (lv_at hl 0 rfl) ?_
    refine va_get (D := (dC, dI)) (ci := 2) (v := .int hkpt) (C := RX2) (T := TX2) (N := 6) hx hb hts (fun w h => mc (inX2 w h)) hown hK hP 0 rfl rfl 4 (by decide) (hts _ (mc q_58)) (fun _ h9 => h9) rfl dX2_count_49 ?_
    cases hf
    exact retI hx hb hr hlocks trivial hS dX2_count_52
  have hf := it_f c1_1 hf
  by_cases c1_2 : x1 = 2
  · have hf := it_t c1_2 hf
    refine lv_tableIn (tgt := 53) hx hb dX2_count_1 (by rw [c1_2]; decide) (by rw [c1_2]; decide) (off := 52) (by rw [c1_2]; decide) (by decide) ?_
    refine lv_aload_n hx hb dX2_count_53 rfl (lv_at hl 0 rfl) ?_
    refine va_get (D := (dC, dI)) (ci := 2) (v := .ref hg0) (C := RX2) (T := TX2) (N := 6) hx hb hts (fun w h => mc (inX2 w h)) hown hK hP 0 rfl rfl 3 (by decide) (hts _ (mc q_57)) (fun _ h9 => h9) rfl dX2_count_54 ?_
    obtain ⟨r57, hc57, hf⟩ := bn1_e hf
    refine callRi (va_runV (As := []) (rest := []) ⟨hx, hb, hml, hown, hts⟩ (cX0_length_met l dC dI cI hg0 hg1 hgln hgrw r57 hc57) (cwV 0 hts gX2_count_95 rfl rfl rfl (by decide +kernel) ⟨Nat.le_of_ble_eq_true rfl, Nat.le_of_ble_eq_true rfl⟩) (preRV (ci := 0) (q0 := 0) hK (hP.sub (ws' := (wX0 cI hg0 hg1 hgln hgrw)) [15, 16] rfl) rfl rfl) rfl rfl hl.1 rfl (lv_room (Nat.le_of_ble_eq_true rfl)) dX2_count_57 ⟨Nat.le_of_ble_eq_true rfl, Nat.le_of_ble_eq_true rfl⟩) hS hP (fun H locs hP hS => ?_)
    cases hf
    exact retI hx hb hr hlocks trivial hS dX2_count_60
  have hf := it_f c1_2 hf
  by_cases c1_3 : x1 = 3
  · have hf := it_t c1_3 hf
    refine lv_tableIn (tgt := 61) hx hb dX2_count_1 (by rw [c1_3]; decide) (by rw [c1_3]; decide) (off := 60) (by rw [c1_3]; decide) (by decide) ?_
    refine lv_aload_n hx hb dX2_count_61 rfl (lv_at hl 0 rfl) ?_
    refine va_get (D := (dC, dI)) (ci := 2) (v := .int hsyn) (C := RX2) (T := TX2) (N := 6) hx hb hts (fun w h => mc (inX2 w h)) hown hK hP 0 rfl rfl 5 (by decide) (hts _ (mc q_59)) (fun _ h9 => h9) rfl dX2_count_62 ?_
    cases hf
    exact retI hx hb hr hlocks trivial hS dX2_count_65
  have hf := it_f c1_3 hf
  by_cases c1_4 : x1 = 4
  · have hf := it_t c1_4 hf
    refine lv_tableIn (tgt := 66) hx hb dX2_count_1 (by rw [c1_4]; decide) (by rw [c1_4]; decide) (off := 65) (by rw [c1_4]; decide) (by decide) ?_
    refine lv_aload_n hx hb dX2_count_66 rfl (lv_at hl 0 rfl) ?_
    refine va_get (D := (dC, dI)) (ci := 2) (v := .ref ht0) (C := RX2) (T := TX2) (N := 6) hx hb hts (fun w h => mc (inX2 w h)) hown hK hP 0 rfl rfl 1 (by decide) (hts _ (mc q_55)) (fun _ h9 => h9) rfl dX2_count_67 ?_
    obtain ⟨r70, hc70, hf⟩ := bn1_e hf
    refine callRi (va_runV (As := []) (rest := []) ⟨hx, hb, hml, hown, hts⟩ (cX1_nodesThere_met l dC dI cI ht0 ht1 ht2 ht3 ht4 ht5 ht6 htkd htsz htlk hthm httg htvl r70 hc70) (cwV 0 hts gX2_count_120 rfl rfl rfl (by decide +kernel) ⟨Nat.le_of_ble_eq_true rfl, Nat.le_of_ble_eq_true rfl⟩) (preRV (ci := 1) (q0 := 0) hK (hP.sub (ws' := (wX1 cI ht0 ht1 ht2 ht3 ht4 ht5 ht6 htkd htsz htlk hthm httg htvl)) [1, 2, 3, 4, 5, 6, 7] rfl) rfl rfl) rfl rfl hl.1 rfl (lv_room (Nat.le_of_ble_eq_true rfl)) dX2_count_70 ⟨Nat.le_of_ble_eq_true rfl, Nat.le_of_ble_eq_true rfl⟩) hS hP (fun H locs hP hS => ?_)
    cases hf
    exact retI hx hb hr hlocks trivial hS dX2_count_73
  have hf := it_f c1_4 hf
  by_cases c1_5 : x1 = 5
  · have hf := it_t c1_5 hf
    refine lv_tableIn (tgt := 74) hx hb dX2_count_1 (by rw [c1_5]; decide) (by rw [c1_5]; decide) (off := 73) (by rw [c1_5]; decide) (by decide) ?_
    refine lv_aload_n hx hb dX2_count_74 rfl (lv_at hl 0 rfl) ?_
    refine va_get (D := (dC, dI)) (ci := 2) (v := .int hlim) (C := RX2) (T := TX2) (N := 6) hx hb hts (fun w h => mc (inX2 w h)) hown hK hP 0 rfl rfl 0 (by decide) (hts _ (mc q_54)) (fun _ h9 => h9) rfl dX2_count_75 ?_
    cases hf
    exact retI hx hb hr hlocks trivial hS dX2_count_78
  have hf := it_f c1_5 hf
  have t0 := lv_neT (a := 0) c1_0 (by decide)
  have t1 := lv_neT (a := 1) c1_1 (by decide)
  have t2 := lv_neT (a := 2) c1_2 (by decide)
  have t3 := lv_neT (a := 3) c1_3 (by decide)
  have t4 := lv_neT (a := 4) c1_4 (by decide)
  have t5 := lv_neT (a := 5) c1_5 (by decide)
  refine lv_tableOut (tgt := 79) hx hb dX2_count_1 (by omega) (by decide) ?_
  refine lv_iconst (v := -1) hx hb dX2_count_79 (by decide) ?_
  cases hf
  exact retI hx hb hr hlocks trivial hS dX2_count_80
