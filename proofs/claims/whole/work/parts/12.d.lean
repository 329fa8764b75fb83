theorem gX2_create_49 : GoodIn wsX2_create (wsS RX2 49 yX2_isNode wsX2_isNode) := gIn (memS q_64 q_65 q_1 q_66)
theorem gX2_create_53 : GoodIn wsX2_create (wsS RX2 53 yX2_isName wsX2_isName) := gIn (memS q_67 q_68 q_1 q_69)
theorem gX2_create_56 : GoodIn wsX2_create (wsV RX2 56 RX1 yX1_isDirectory wsX1_isDirectory) := gIn (memV q_70 q_71 q_72 q_3 q_73)
theorem gX2_create_59 : GoodIn wsX2_create (wsV RX2 59 RX1 yX1_target wsX1_target) := gIn (memV q_74 q_75 q_76 q_3 q_77)
theorem gX2_create_62 : GoodIn wsX2_create (wsV RX2 62 RX1 yX1_leastFreeNode wsX1_leastFreeNode) := gIn (memV q_78 q_79 q_80 q_3 q_81)
theorem gX2_create_65 : GoodIn wsX2_create (wsV RX2 65 RX1 yX1_size wsX1_size) := gIn (memV q_82 q_83 q_84 q_3 q_85)
theorem gX2_create_69 : GoodIn wsX2_create (wsS RX2 69 yX2_costOf wsX2_costOf) := gIn (memS q_86 q_87 q_1 q_88)
theorem gX2_create_72 : GoodIn wsX2_create (wsV RX2 72 RX2 yX2_makesRoom wsX2_makesRoom) := gIn (memV q_89 q_90 q_344 q_1 q_91)
theorem gX2_create_76 : GoodIn wsX2_create (wsV RX2 76 RX2 yX2_perform wsX2_perform) := gIn (memV q_109 q_110 q_347 q_1 q_111)
set_option maxHeartbeats 4000000 in
set_option maxRecDepth 100000 in
theorem cX2_create_met (l : Launch) (dC : Nat → ClassId) (dI : Nat → Nat → Nat) (cI : ClassId) (h0 ht0 ht1 ht2 ht3 ht4 ht5 ht6 hu0 hu1 hu2 hu3 hu4 hu5 hu6 hg0 hg1 : Nat) (hlim : Int32) (hkpt : Int32) (hsyn : Int32) (htkd : Nat → Int32) (htsz : Nat → Int32) (htlk : Nat → Int32) (hthm : Nat → Int32) (httg : Nat → Int32) (htvl : Nat → Int32) (hukd : Nat → Int32) (husz : Nat → Int32) (hulk : Nat → Int32) (huhm : Nat → Int32) (hutg : Nat → Int32) (huvl : Nat → Int32) (hgln : Int32) (hgrw : Nat → Int32) (x1 : Int32) (x2 : Int32) (x3 : Int32) (r : Int32) (hkpt_o : Int32) (hsyn_o : Int32) (htkd_o : Nat → Int32) (htsz_o : Nat → Int32) (htlk_o : Nat → Int32) (hthm_o : Nat → Int32) (httg_o : Nat → Int32) (htvl_o : Nat → Int32) (hukd_o : Nat → Int32) (husz_o : Nat → Int32) (hulk_o : Nat → Int32) (huhm_o : Nat → Int32) (hutg_o : Nat → Int32) (huvl_o : Nat → Int32) (hgln_o : Int32) (hgrw_o : Nat → Int32) (hf : fX2_create x1 x2 x3 hlim hkpt hsyn htkd htsz htlk hthm httg htvl hukd husz hulk huhm hutg huvl hgln hgrw = some (r, hkpt_o, hsyn_o, htkd_o, htsz_o, htlk_o, hthm_o, httg_o, htvl_o, hukd_o, husz_o, hulk_o, huhm_o, hutg_o, huvl_o, hgln_o, hgrw_o)) : Met l yX2_create wsX2_create ({ frames := 6, cells := 0, slots := 0, locals := 126 } : Room) (pcW [.ref h0, .int x1, .int x2, .int x3] (dC, dI) vwCl [(cI, .int)] (wX2 cI h0 ht0 ht1 ht2 ht3 ht4 ht5 ht6 hu0 hu1 hu2 hu3 hu4 hu5 hu6 hg0 hg1 hlim hkpt hsyn htkd htsz htlk hthm httg htvl hukd husz hulk huhm hutg huvl hgln hgrw)) (qI r (va_P (dC, dI) vwCl (wX2 cI h0 ht0 ht1 ht2 ht3 ht4 ht5 ht6 hu0 hu1 hu2 hu3 hu4 hu5 hu6 hg0 hg1 hlim hkpt_o hsyn_o htkd_o htsz_o htlk_o hthm_o httg_o htvl_o hukd_o husz_o hulk_o huhm_o hutg_o huvl_o hgln_o hgrw_o)) (inA [h0, ht0, ht1, ht2, ht3, ht4, ht5, ht6, hu0, hu1, hu2, hu3, hu4, hu5, hu6, hg0, hg1])) 0 0 (inA [h0, ht0, ht1, ht2, ht3, ht4, ht5, ht6, hu0, hu1, hu2, hu3, hu4, hu5, hu6, hg0, hg1]) := by
  refine Met.ofW (cc := cX2_create) (maxL := 6) (ret := (some .int)) (by decide) rfl ?_
  intro p e s m args below meth c s₁ B hml hv
  obtain ⟨rfl, hP, hK, hD0⟩ := hv
  have hx := B.exec
  have hb := B.bytes
  have hr := B.returns
  have hts := atoms_spec (ws := wsX2_create) B.pre
  have hown : s.vm.findClass RX2 = some m.cls := findClass_of_methodNamed B.named
  have hlocks := B.notSynchronized
  have hD := my_self (as := [h0, ht0, ht1, ht2, ht3, ht4, ht5, ht6, hu0, hu1, hu2, hu3, hu4, hu5, hu6, hg0, hg1]) hD0 rfl
  have hS : va_S (inA [h0, ht0, ht1, ht2, ht3, ht4, ht5, ht6, hu0, hu1, hu2, hu3, hu4, hu5, hu6, hg0, hg1]) s.heap s.heap [] := va_S.rf
  have hl := lv_entry ([.ref h0, .int x1, .int x2, .int x3]) (n := 6) (Nat.le_of_ble_eq_true rfl)
  rw [lg_entry_eq]
  generalize (lg_sl ([.ref h0, .int x1, .int x2, .int x3]) ++ List.replicate (6 - (lg_sl ([.ref h0, .int x1, .int x2, .int x3])).length) Slot.unset).toArray = ls at hl ⊢
  have hl : lv_has ls 6 [(0, .ref h0), (1, .int x1), (2, .int x2), (3, .int x3)] := hl
  unfold fX2_create at hf
  refine lv_iload_n hx hb dX2_create_0 rfl (lv_at hl 1 rfl) ?_
  obtain ⟨r1, hc1, hf⟩ := bn1_e hf
  refine callRi (va_runS (As := [.int x1]) (rest := []) ⟨hx, hb, hml, hown, hts⟩ (cX2_isNode_met l dC dI cI x1 r1 hc1) (cwS 1 hts gX2_create_49 rfl rfl rfl (by decide +kernel) ⟨Nat.le_of_ble_eq_true rfl, Nat.le_of_ble_eq_true rfl⟩) (preRS hK (hP.sub (ws' := []) [] rfl)) rfl rfl hl.1 rfl (lv_room (Nat.le_of_ble_eq_true rfl)) dX2_create_1 ⟨Nat.le_of_ble_eq_true rfl, Nat.le_of_ble_eq_true rfl⟩) hS hP (fun H locs hP hS => ?_)
  refine lv_if_eq (tgt := 14) hx hb dX2_create_4 (by decide) (fun c4 => ?_) (fun c4 => ?_)
  · have hf := it_t c4 hf
    refine lv_iconst (v := -1) hx hb dX2_create_14 (by decide) ?_
    cases hf
    exact retI hx hb hr hlocks hP hS dX2_create_15
  · have hf := it_f c4 hf
    refine lv_iload_n hx hb dX2_create_7 rfl (lv_at hl 2 rfl) ?_
    obtain ⟨r8, hc8, hf⟩ := bn1_e hf
    refine callRi (va_runS (As := [.int x2]) (rest := []) ⟨hx, hb, hml, hown, hts⟩ (cX2_isName_met l dC dI cI x2 r8 hc8) (cwS 1 hts gX2_create_53 rfl rfl rfl (by decide +kernel) ⟨Nat.le_of_ble_eq_true rfl, Nat.le_of_ble_eq_true rfl⟩) (preRS hK (hP.sub (ws' := []) [] rfl)) rfl rfl hl.1 rfl (lv_room (Nat.le_of_ble_eq_true rfl)) dX2_create_8 ⟨Nat.le_of_ble_eq_true rfl, Nat.le_of_ble_eq_true rfl⟩) hS hP (fun H locs hP hS => ?_)
    refine lv_if_ne (tgt := 16) hx hb dX2_create_11 (by decide) (fun c11 => ?_) (fun c11 => ?_)
    · have hf := it_f c11 hf
      refine lv_aload_n hx hb dX2_create_16 rfl (lv_at hl 0 rfl) ?_
      refine va_get (D := (dC, dI)) (ci := 2) (v := .ref ht0) (C := RX2) (T := TX2) (N := 6) hx hb hts (fun w h => mc (inX2 w h)) hown hK hP 0 rfl rfl 1 (by decide) (hts _ (mc q_55)) (fun _ h9 => h9) rfl dX2_create_17 ?_
      refine lv_iload_n hx hb dX2_create_20 rfl (lv_at hl 1 rfl) ?_
      obtain ⟨r21, hc21, hf⟩ := bn1_e hf
      refine callRi (va_runV (As := [.int x1]) (rest := []) ⟨hx, hb, hml, hown, hts⟩ (cX1_isDirectory_met l dC dI cI ht0 ht1 ht2 ht3 ht4 ht5 ht6 htkd htsz htlk hthm httg htvl x1 r21 hc21) (cwV 1 hts gX2_create_56 rfl rfl rfl (by decide +kernel) ⟨Nat.le_of_ble_eq_true rfl, Nat.le_of_ble_eq_true rfl⟩) (preRV (ci := 1) (q0 := 0) hK (hP.sub (ws' := (wX1 cI ht0 ht1 ht2 ht3 ht4 ht5 ht6 htkd htsz htlk hthm httg htvl)) [1, 2, 3, 4, 5, 6, 7] rfl) rfl rfl) rfl rfl hl.1 rfl (lv_room (Nat.le_of_ble_eq_true rfl)) dX2_create_21 ⟨Nat.le_of_ble_eq_true rfl, Nat.le_of_ble_eq_true rfl⟩) hS hP (fun H locs hP hS => ?_)
      refine lv_if_ne (tgt := 30) hx hb dX2_create_24 (by decide) (fun c24 => ?_) (fun c24 => ?_)
      · have hf := it_f c24 hf
        refine lv_aload_n hx hb dX2_create_30 rfl (lv_at hl 0 rfl) ?_
        refine va_get (D := (dC, dI)) (ci := 2) (v := .ref ht0) (C := RX2) (T := TX2) (N := 6) hx hb hts (fun w h => mc (inX2 w h)) hown hK hP 0 rfl rfl 1 (by decide) (hts _ (mc q_55)) (fun _ h9 => h9) rfl dX2_create_31 ?_
        refine lv_iload_n hx hb dX2_create_34 rfl (lv_at hl 1 rfl) ?_
        refine lv_iload_n hx hb dX2_create_35 rfl (lv_at hl 2 rfl) ?_
        obtain ⟨r36, hc36, hf⟩ := bn1_e hf
        refine callRi (va_runV (As := [.int x1, .int x2]) (rest := []) ⟨hx, hb, hml, hown, hts⟩ (cX1_target_met l dC dI cI ht0 ht1 ht2 ht3 ht4 ht5 ht6 htkd htsz htlk hthm httg htvl x1 x2 r36 hc36) (cwV 2 hts gX2_create_59 rfl rfl rfl (by decide +kernel) ⟨Nat.le_of_ble_eq_true rfl, Nat.le_of_ble_eq_true rfl⟩) (preRV (ci := 1) (q0 := 0) hK (hP.sub (ws' := (wX1 cI ht0 ht1 ht2 ht3 ht4 ht5 ht6 htkd htsz htlk hthm httg htvl)) [1, 2, 3, 4, 5, 6, 7] rfl) rfl rfl) rfl rfl hl.1 rfl (lv_room (Nat.le_of_ble_eq_true rfl)) dX2_create_36 ⟨Nat.le_of_ble_eq_true rfl, Nat.le_of_ble_eq_true rfl⟩) hS hP (fun H locs hP hS => ?_)
        refine lv_if_eq (tgt := 45) hx hb dX2_create_39 (by decide) (fun c39 => ?_) (fun c39 => ?_)
        · have hf := it_t c39 hf
          refine lv_aload_n hx hb dX2_create_45 rfl (lv_at hl 0 rfl) ?_
          refine va_get (D := (dC, dI)) (ci := 2) (v := .ref ht0) (C := RX2) (T := TX2) (N := 6) hx hb hts (fun w h => mc (inX2 w h)) hown hK hP 0 rfl rfl 1 (by decide) (hts _ (mc q_55)) (fun _ h9 => h9) rfl dX2_create_46 ?_
          obtain ⟨r49, hc49, hf⟩ := bn1_e hf
          refine callRi (va_runV (As := []) (rest := []) ⟨hx, hb, hml, hown, hts⟩ (cX1_leastFreeNode_met l dC dI cI ht0 ht1 ht2 ht3 ht4 ht5 ht6 htkd htsz htlk hthm httg htvl r49 hc49) (cwV 0 hts gX2_create_62 rfl rfl rfl (by decide +kernel) ⟨Nat.le_of_ble_eq_true rfl, Nat.le_of_ble_eq_true rfl⟩) (preRV (ci := 1) (q0 := 0) hK (hP.sub (ws' := (wX1 cI ht0 ht1 ht2 ht3 ht4 ht5 ht6 htkd htsz htlk hthm httg htvl)) [1, 2, 3, 4, 5, 6, 7] rfl) rfl rfl) rfl rfl hl.1 rfl (lv_room (Nat.le_of_ble_eq_true rfl)) dX2_create_49 ⟨Nat.le_of_ble_eq_true rfl, Nat.le_of_ble_eq_true rfl⟩) hS hP (fun H locs hP hS => ?_)
          refine lv_istore (lv' := [(4, .int r49), (0, .ref h0), (1, .int x1), (2, .int x2), (3, .int x3)]) hx hb dX2_create_52 hl (by decide) rfl (fun ls hl => ?_)
          refine lv_aload_n hx hb dX2_create_54 rfl (lv_at hl 1 rfl) ?_
          refine va_get (D := (dC, dI)) (ci := 2) (v := .ref ht0) (C := RX2) (T := TX2) (N := 6) hx hb hts (fun w h => mc (inX2 w h)) hown hK hP 0 rfl rfl 1 (by decide) (hts _ (mc q_55)) (fun _ h9 => h9) rfl dX2_create_55 ?_
          refine lv_iload_n hx hb dX2_create_58 rfl (lv_at hl 2 rfl) ?_
          obtain ⟨r59, hc59, hf⟩ := bn1_e hf
          refine callRi (va_runV (As := [.int x1]) (rest := []) ⟨hx, hb, hml, hown, hts⟩ (cX1_size_met l dC dI cI ht0 ht1 ht2 ht3 ht4 ht5 ht6 htkd htsz htlk hthm httg htvl x1 r59 hc59) (cwV 1 hts gX2_create_65 rfl rfl rfl (by decide +kernel) ⟨Nat.le_of_ble_eq_true rfl, Nat.le_of_ble_eq_true rfl⟩) (preRV (ci := 1) (q0 := 0) hK (hP.sub (ws' := (wX1 cI ht0 ht1 ht2 ht3 ht4 ht5 ht6 htkd htsz htlk hthm httg htvl)) [1, 2, 3, 4, 5, 6, 7] rfl) rfl rfl) rfl rfl hl.1 rfl (lv_room (Nat.le_of_ble_eq_true rfl)) dX2_create_59 ⟨Nat.le_of_ble_eq_true rfl, Nat.le_of_ble_eq_true rfl⟩) hS hP (fun H locs hP hS => ?_)
          refine lv_bipush (v := 8) hx hb dX2_create_62 (by decide) ?_
          refine lv_icmp_ge (tgt := 72) hx hb dX2_create_64 (by decide) (fun c64 => ?_) (fun c64 => ?_)
          · have hf := it_t c64 hf
            refine lv_bipush (v := -5) hx hb dX2_create_72 (by decide) ?_
            cases hf
            exact retI hx hb hr hlocks hP hS dX2_create_74
          · have hf := it_f c64 hf
            refine lv_iload hx hb dX2_create_67 (lv_at hl 0 rfl) ?_
            refine lv_if_ne (tgt := 75) hx hb dX2_create_69 (by decide) (fun c69 => ?_) (fun c69 => ?_)
            · have hf := it_f c69 hf
              refine lv_iconst (v := 2) hx hb dX2_create_75 (by decide) ?_
              refine lv_iconst (v := 0) hx hb dX2_create_76 (by decide) ?_
              obtain ⟨r77, hc77, hf⟩ := bn1_e hf
              refine callRi (va_runS (As := [.int 2, .int 0]) (rest := []) ⟨hx, hb, hml, hown, hts⟩ (cX2_costOf_met l dC dI cI 2 0 r77 hc77) (cwS 2 hts gX2_create_69 rfl rfl rfl (by decide +kernel) ⟨Nat.le_of_ble_eq_true rfl, Nat.le_of_ble_eq_true rfl⟩) (preRS hK (hP.sub (ws' := []) [] rfl)) rfl rfl hl.1 rfl (lv_room (Nat.le_of_ble_eq_true rfl)) dX2_create_77 ⟨Nat.le_of_ble_eq_true rfl, Nat.le_of_ble_eq_true rfl⟩) hS hP (fun H locs hP hS => ?_)
              refine lv_istore (lv' := [(5, .int r77), (4, .int r49), (0, .ref h0), (1, .int x1), (2, .int x2), (3, .int x3)]) hx hb dX2_create_80 hl (by decide) rfl (fun ls hl => ?_)
              refine lv_aload_n hx hb dX2_create_82 rfl (lv_at hl 2 rfl) ?_
              refine lv_iload hx hb dX2_create_83 (lv_at hl 0 rfl) ?_
              refine lv_iconst (v := 1) hx hb dX2_create_85 (by decide) ?_
              obtain ⟨r86, hkpt_86, hsyn_86, hukd_86, husz_86, hulk_86, huhm_86, hutg_86, huvl_86, hgln_86, hc86, hf⟩ := bn10_e hf
              refine callVi (w1 := (wX2 cI h0 ht0 ht1 ht2 ht3 ht4 ht5 ht6 hu0 hu1 hu2 hu3 hu4 hu5 hu6 hg0 hg1 hlim hkpt_86 hsyn_86 htkd htsz htlk hthm httg htvl hukd_86 husz_86 hulk_86 huhm_86 hutg_86 huvl_86 hgln_86 hgrw)) (va_runV (As := [.int r77, .int 1]) (rest := []) ⟨hx, hb, hml, hown, hts⟩ (cX2_makesRoom_met l dC dI cI h0 ht0 ht1 ht2 ht3 ht4 ht5 ht6 hu0 hu1 hu2 hu3 hu4 hu5 hu6 hg0 hg1 hlim hkpt hsyn htkd htsz htlk hthm httg htvl hukd husz hulk huhm hutg huvl hgln hgrw r77 1 r86 hkpt_86 hsyn_86 hukd_86 husz_86 hulk_86 huhm_86 hutg_86 huvl_86 hgln_86 hc86) (cwV 2 hts gX2_create_72 rfl rfl rfl (by decide +kernel) ⟨Nat.le_of_ble_eq_true rfl, Nat.le_of_ble_eq_true rfl⟩) (preWV (ci := 2) (q0 := 0) hK hP hD rfl rfl) rfl rfl hl.1 rfl (lv_room (Nat.le_of_ble_eq_true rfl)) dX2_create_86 ⟨Nat.le_of_ble_eq_true rfl, Nat.le_of_ble_eq_true rfl⟩) hS hD rfl rfl (fun H locs hP hD hS => ?_)
              refine lv_if_ne (tgt := 95) hx hb dX2_create_89 (by decide) (fun c89 => ?_) (fun c89 => ?_)
              · have hf := it_f c89 hf
                refine lv_aload_n hx hb dX2_create_95 rfl (lv_at hl 2 rfl) ?_
                refine lv_iload hx hb dX2_create_96 (lv_at hl 0 rfl) ?_
                refine lv_iconst (v := 0) hx hb dX2_create_98 (by decide) ?_
                refine lv_iload_n hx hb dX2_create_99 rfl (lv_at hl 3 rfl) ?_
                refine lv_iload_n hx hb dX2_create_100 rfl (lv_at hl 4 rfl) ?_
                refine lv_iload_n hx hb dX2_create_101 rfl (lv_at hl 5 rfl) ?_
                refine lv_if_eq (tgt := 109) hx hb dX2_create_102 (by decide) (fun c102 => ?_) (fun c102 => ?_)
                · have hf := it_t c102 hf
                  refine lv_iconst (v := 1) hx hb dX2_create_109 (by decide) ?_
                  refine lv_iconst (v := 0) hx hb dX2_create_110 (by decide) ?_
                  obtain ⟨hkpt_111, htkd_111, htsz_111, htlk_111, hthm_111, httg_111, htvl_111, hgln_111, hgrw_111, hc111, hf⟩ := bn9_e hf
                  refine callVv (w1 := (wX2 cI h0 ht0 ht1 ht2 ht3 ht4 ht5 ht6 hu0 hu1 hu2 hu3 hu4 hu5 hu6 hg0 hg1 hlim hkpt_111 hsyn_86 htkd_111 htsz_111 htlk_111 hthm_111 httg_111 htvl_111 hukd_86 husz_86 hulk_86 huhm_86 hutg_86 huvl_86 hgln_111 hgrw_111)) (va_runV (As := [.int r77, .int 0, .int x1, .int x2, .int 1, .int 0]) (rest := []) ⟨hx, hb, hml, hown, hts⟩ (cX2_perform_met l dC dI cI h0 ht0 ht1 ht2 ht3 ht4 ht5 ht6 hu0 hu1 hu2 hu3 hu4 hu5 hu6 hg0 hg1 hlim hkpt_86 hsyn_86 htkd htsz htlk hthm httg htvl hukd_86 husz_86 hulk_86 huhm_86 hutg_86 huvl_86 hgln_86 hgrw r77 0 x1 x2 1 0 hkpt_111 htkd_111 htsz_111 htlk_111 hthm_111 httg_111 htvl_111 hgln_111 hgrw_111 hc111) (cwV 6 hts gX2_create_76 rfl rfl rfl (by decide +kernel) ⟨Nat.le_of_ble_eq_true rfl, Nat.le_of_ble_eq_true rfl⟩) (preWV (ci := 2) (q0 := 0) hK hP hD rfl rfl) rfl rfl hl.1 rfl (lv_room (Nat.le_of_ble_eq_true rfl)) dX2_create_111 ⟨Nat.le_of_ble_eq_true rfl, Nat.le_of_ble_eq_true rfl⟩) hS hD rfl rfl (fun H locs hP hD hS => ?_)
                  refine lv_iload hx hb dX2_create_114 (lv_at hl 1 rfl) ?_
                  cases hf
                  exact retI hx hb hr hlocks hP hS dX2_create_116
                · have hf := it_f c102 hf
                  refine lv_iconst (v := 2) hx hb dX2_create_105 (by decide) ?_
                  refine lv_goto (tgt := 110) hx hb dX2_create_106 (by decide) ?_
                  refine lv_iconst (v := 0) hx hb dX2_create_110 (by decide) ?_
                  obtain ⟨hkpt_111, htkd_111, htsz_111, htlk_111, hthm_111, httg_111, htvl_111, hgln_111, hgrw_111, hc111, hf⟩ := bn9_e hf
                  refine callVv (w1 := (wX2 cI h0 ht0 ht1 ht2 ht3 ht4 ht5 ht6 hu0 hu1 hu2 hu3 hu4 hu5 hu6 hg0 hg1 hlim hkpt_111 hsyn_86 htkd_111 htsz_111 htlk_111 hthm_111 httg_111 htvl_111 hukd_86 husz_86 hulk_86 huhm_86 hutg_86 huvl_86 hgln_111 hgrw_111)) (va_runV (As := [.int r77, .int 0, .int x1, .int x2, .int 2, .int 0]) (rest := []) ⟨hx, hb, hml, hown, hts⟩ (cX2_perform_met l dC dI cI h0 ht0 ht1 ht2 ht3 ht4 ht5 ht6 hu0 hu1 hu2 hu3 hu4 hu5 hu6 hg0 hg1 hlim hkpt_86 hsyn_86 htkd htsz htlk hthm httg htvl hukd_86 husz_86 hulk_86 huhm_86 hutg_86 huvl_86 hgln_86 hgrw r77 0 x1 x2 2 0 hkpt_111 htkd_111 htsz_111 htlk_111 hthm_111 httg_111 htvl_111 hgln_111 hgrw_111 hc111) (cwV 6 hts gX2_create_76 rfl rfl rfl (by decide +kernel) ⟨Nat.le_of_ble_eq_true rfl, Nat.le_of_ble_eq_true rfl⟩) (preWV (ci := 2) (q0 := 0) hK hP hD rfl rfl) rfl rfl hl.1 rfl (lv_room (Nat.le_of_ble_eq_true rfl)) dX2_create_111 ⟨Nat.le_of_ble_eq_true rfl, Nat.le_of_ble_eq_true rfl⟩) hS hD rfl rfl (fun H locs hP hD hS => ?_)
                  refine lv_iload hx hb dX2_create_114 (lv_at hl 1 rfl) ?_
                  cases hf
                  exact retI hx hb hr hlocks hP hS dX2_create_116
              · have hf := it_t c89 hf
                refine lv_bipush (v := -6) hx hb dX2_create_92 (by decide) ?_
                cases hf
                exact retI hx hb hr hlocks hP hS dX2_create_94
            · have hf := it_t c69 hf
              refine lv_bipush (v := -5) hx hb dX2_create_72 (by decide) ?_
              cases hf
              exact retI hx hb hr hlocks hP hS dX2_create_74
        · have hf := it_f c39 hf
          refine lv_bipush (v := -3) hx hb dX2_create_42 (by decide) ?_
          cases hf
          exact retI hx hb hr hlocks hP hS dX2_create_44
      · have hf := it_t c24 hf
        refine lv_bipush (v := -2) hx hb dX2_create_27 (by decide) ?_
        cases hf
        exact retI hx hb hr hlocks hP hS dX2_create_29
    · have hf := it_t c11 hf
      refine lv_iconst (v := -1) hx hb dX2_create_14 (by decide) ?_
      cases hf
      exact retI hx hb hr hlocks hP hS dX2_create_15
