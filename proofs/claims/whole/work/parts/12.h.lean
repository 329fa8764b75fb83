theorem gX2_write_49 : GoodIn wsX2_write (wsS RX2 49 yX2_isNode wsX2_isNode) := gIn (memS q_64 q_65 q_1 q_66)
theorem gX2_write_80 : GoodIn wsX2_write (wsV RX2 80 RX1 yX1_isFile wsX1_isFile) := gIn (memV q_159 q_51 q_52 q_3 q_53)
theorem gX2_write_65 : GoodIn wsX2_write (wsV RX2 65 RX1 yX1_size wsX1_size) := gIn (memV q_82 q_83 q_84 q_3 q_85)
theorem gX2_write_69 : GoodIn wsX2_write (wsS RX2 69 yX2_costOf wsX2_costOf) := gIn (memS q_86 q_87 q_1 q_88)
theorem gX2_write_72 : GoodIn wsX2_write (wsV RX2 72 RX2 yX2_makesRoom wsX2_makesRoom) := gIn (memV q_89 q_90 q_344 q_1 q_91)
theorem gX2_write_76 : GoodIn wsX2_write (wsV RX2 76 RX2 yX2_perform wsX2_perform) := gIn (memV q_109 q_110 q_347 q_1 q_111)
set_option maxHeartbeats 4000000 in
set_option maxRecDepth 100000 in
theorem wbX2_write_74 {p : Program} {l : Launch} {e : Env} {s : State} {m : MethodId} {args : Array Value} {below : List Frame} {meth : Method} {c : Code} {dC : Nat → ClassId} {dI : Nat → Nat → Nat} {cI : ClassId} (hx : p.tables.exec = Jvm.exec) (hb : c.code = cX2_write) (hml : c.maxLocals = 5) (hown : s.vm.findClass RX2 = some m.cls) (hts : ∀ w ∈ wsX2_write, w.before args s = true) (hr : meth.sig.returnType = (some .int)) (hlocks : meth.locks = false) (hK : va_K (dC, dI) vwCl [(cI, .int)] s) (h0 ht0 ht1 ht2 ht3 ht4 ht5 ht6 hu0 hu1 hu2 hu3 hu4 hu5 hu6 hg0 hg1 : Nat) (hlim : Int32) (r : Int32) (hkpt_o : Int32) (hsyn_o : Int32) (htkd_o : Nat → Int32) (htsz_o : Nat → Int32) (htlk_o : Nat → Int32) (hthm_o : Nat → Int32) (httg_o : Nat → Int32) (htvl_o : Nat → Int32) (hukd_o : Nat → Int32) (husz_o : Nat → Int32) (hulk_o : Nat → Int32) (huhm_o : Nat → Int32) (hutg_o : Nat → Int32) (huvl_o : Nat → Int32) (hgln_o : Int32) (hgrw_o : Nat → Int32) : ∀ (x1 : Int32) (x2 : Int32) (x3 : Int32) (x4 : Int32) (z0 : Int32) (z1 : Int32) (hkpt : Int32) (hsyn : Int32) (htkd : Nat → Int32) (htsz : Nat → Int32) (htlk : Nat → Int32) (hthm : Nat → Int32) (httg : Nat → Int32) (htvl : Nat → Int32) (hukd : Nat → Int32) (husz : Nat → Int32) (hulk : Nat → Int32) (huhm : Nat → Int32) (hutg : Nat → Int32) (huvl : Nat → Int32) (hgln : Int32) (hgrw : Nat → Int32) (H : Heap) (locs : List Loc), va_P (dC, dI) vwCl (wX2 cI h0 ht0 ht1 ht2 ht3 ht4 ht5 ht6 hu0 hu1 hu2 hu3 hu4 hu5 hu6 hg0 hg1 hlim hkpt hsyn htkd htsz htlk hthm httg htvl hukd husz hulk huhm hutg huvl hgln hgrw) H → va_D (inA [h0, ht0, ht1, ht2, ht3, ht4, ht5, ht6, hu0, hu1, hu2, hu3, hu4, hu5, hu6, hg0, hg1]) (wX2 cI h0 ht0 ht1 ht2 ht3 ht4 ht5 ht6 hu0 hu1 hu2 hu3 hu4 hu5 hu6 hg0 hg1 hlim hkpt hsyn htkd htsz htlk hthm httg htvl hukd husz hulk huhm hutg huvl hgln hgrw) → va_S (inA [h0, ht0, ht1, ht2, ht3, ht4, ht5, ht6, hu0, hu1, hu2, hu3, hu4, hu5, hu6, hg0, hg1]) s.heap H locs → ∀ (ls : Array Slot), lv_has ls 5 [(0, .ref h0), (1, .int x1), (2, .int x2), (3, .int x3), (4, .int x4)] → fX2_write_b74 hlim x1 x2 x3 x4 z0 z1 hkpt hsyn htkd htsz htlk hthm httg htvl hukd husz hulk huhm hutg huvl hgln hgrw = some (r, hkpt_o, hsyn_o, htkd_o, htsz_o, htlk_o, hthm_o, httg_o, htvl_o, hukd_o, husz_o, hulk_o, huhm_o, hutg_o, huvl_o, hgln_o, hgrw_o) → W p l e ({ frames := 6, cells := 0, slots := 0, locals := 126 } : Room) s m args below meth c H locs 0 0 (MQ below (qI r (va_P (dC, dI) vwCl (wX2 cI h0 ht0 ht1 ht2 ht3 ht4 ht5 ht6 hu0 hu1 hu2 hu3 hu4 hu5 hu6 hg0 hg1 hlim hkpt_o hsyn_o htkd_o htsz_o htlk_o hthm_o httg_o htvl_o hukd_o husz_o hulk_o huhm_o hutg_o huvl_o hgln_o hgrw_o)) (inA [h0, ht0, ht1, ht2, ht3, ht4, ht5, ht6, hu0, hu1, hu2, hu3, hu4, hu5, hu6, hg0, hg1])) args s 0 0 (inA [h0, ht0, ht1, ht2, ht3, ht4, ht5, ht6, hu0, hu1, hu2, hu3, hu4, hu5, hu6, hg0, hg1])) (F0 m 74 ls [.int z0, .int z1, .ref h0]) := by
  intro x1 x2 x3 x4 z0 z1 hkpt hsyn htkd htsz htlk hthm httg htvl hukd husz hulk huhm hutg huvl hgln hgrw H locs hP hD hS ls hl hf
  unfold fX2_write_b74 at hf
  obtain ⟨r74, hkpt_74, hsyn_74, hukd_74, husz_74, hulk_74, huhm_74, hutg_74, huvl_74, hgln_74, hc74, hf⟩ := bn10_e hf
  refine callVi (w1 := (wX2 cI h0 ht0 ht1 ht2 ht3 ht4 ht5 ht6 hu0 hu1 hu2 hu3 hu4 hu5 hu6 hg0 hg1 hlim hkpt_74 hsyn_74 htkd htsz htlk hthm httg htvl hukd_74 husz_74 hulk_74 huhm_74 hutg_74 huvl_74 hgln_74 hgrw)) (va_runV (As := [.int z1, .int z0]) (rest := []) ⟨hx, hb, hml, hown, hts⟩ (cX2_makesRoom_met l dC dI cI h0 ht0 ht1 ht2 ht3 ht4 ht5 ht6 hu0 hu1 hu2 hu3 hu4 hu5 hu6 hg0 hg1 hlim hkpt hsyn htkd htsz htlk hthm httg htvl hukd husz hulk huhm hutg huvl hgln hgrw z1 z0 r74 hkpt_74 hsyn_74 hukd_74 husz_74 hulk_74 huhm_74 hutg_74 huvl_74 hgln_74 hc74) (cwV 2 hts gX2_write_72 rfl rfl rfl (by decide +kernel) ⟨Nat.le_of_ble_eq_true rfl, Nat.le_of_ble_eq_true rfl⟩) (preWV (ci := 2) (q0 := 0) hK hP hD rfl rfl) rfl rfl hl.1 rfl (lv_room (Nat.le_of_ble_eq_true rfl)) dX2_write_74 ⟨Nat.le_of_ble_eq_true rfl, Nat.le_of_ble_eq_true rfl⟩) hS hD rfl rfl (fun H locs hP hD hS => ?_)
  refine lv_if_ne (tgt := 83) hx hb dX2_write_77 (by decide) (fun c77 => ?_) (fun c77 => ?_)
  · have hf := it_f c77 hf
    refine lv_aload_n hx hb dX2_write_83 rfl (lv_at hl 0 rfl) ?_
    refine lv_iload hx hb dX2_write_84 (lv_at hl 4 rfl) ?_
    refine lv_iconst (v := 4) hx hb dX2_write_86 (by decide) ?_
    refine lv_iload_n hx hb dX2_write_87 rfl (lv_at hl 1 rfl) ?_
    refine lv_iload_n hx hb dX2_write_88 rfl (lv_at hl 2 rfl) ?_
    refine lv_iload_n hx hb dX2_write_89 rfl (lv_at hl 3 rfl) ?_
    refine lv_iconst (v := 0) hx hb dX2_write_90 (by decide) ?_
    obtain ⟨hkpt_91, htkd_91, htsz_91, htlk_91, hthm_91, httg_91, htvl_91, hgln_91, hgrw_91, hc91, hf⟩ := bn9_e hf
    refine callVv (w1 := (wX2 cI h0 ht0 ht1 ht2 ht3 ht4 ht5 ht6 hu0 hu1 hu2 hu3 hu4 hu5 hu6 hg0 hg1 hlim hkpt_91 hsyn_74 htkd_91 htsz_91 htlk_91 hthm_91 httg_91 htvl_91 hukd_74 husz_74 hulk_74 huhm_74 hutg_74 huvl_74 hgln_91 hgrw_91)) (va_runV (As := [.int x4, .int 4, .int x1, .int x2, .int x3, .int 0]) (rest := []) ⟨hx, hb, hml, hown, hts⟩ (cX2_perform_met l dC dI cI h0 ht0 ht1 ht2 ht3 ht4 ht5 ht6 hu0 hu1 hu2 hu3 hu4 hu5 hu6 hg0 hg1 hlim hkpt_74 hsyn_74 htkd htsz htlk hthm httg htvl hukd_74 husz_74 hulk_74 huhm_74 hutg_74 huvl_74 hgln_74 hgrw x4 4 x1 x2 x3 0 hkpt_91 htkd_91 htsz_91 htlk_91 hthm_91 httg_91 htvl_91 hgln_91 hgrw_91 hc91) (cwV 6 hts gX2_write_76 rfl rfl rfl (by decide +kernel) ⟨Nat.le_of_ble_eq_true rfl, Nat.le_of_ble_eq_true rfl⟩) (preWV (ci := 2) (q0 := 0) hK hP hD rfl rfl) rfl rfl hl.1 rfl (lv_room (Nat.le_of_ble_eq_true rfl)) dX2_write_91 ⟨Nat.le_of_ble_eq_true rfl, Nat.le_of_ble_eq_true rfl⟩) hS hD rfl rfl (fun H locs hP hD hS => ?_)
    refine lv_iconst (v := 0) hx hb dX2_write_94 (by decide) ?_
    cases hf
    exact retI hx hb hr hlocks hP hS dX2_write_95
  · have hf := it_t c77 hf
    refine lv_bipush (v := -6) hx hb dX2_write_80 (by decide) ?_
    cases hf
    exact retI hx hb hr hlocks hP hS dX2_write_82
set_option maxHeartbeats 4000000 in
set_option maxRecDepth 100000 in
theorem cX2_write_met (l : Launch) (dC : Nat → ClassId) (dI : Nat → Nat → Nat) (cI : ClassId) (h0 ht0 ht1 ht2 ht3 ht4 ht5 ht6 hu0 hu1 hu2 hu3 hu4 hu5 hu6 hg0 hg1 : Nat) (hlim : Int32) (hkpt : Int32) (hsyn : Int32) (htkd : Nat → Int32) (htsz : Nat → Int32) (htlk : Nat → Int32) (hthm : Nat → Int32) (httg : Nat → Int32) (htvl : Nat → Int32) (hukd : Nat → Int32) (husz : Nat → Int32) (hulk : Nat → Int32) (huhm : Nat → Int32) (hutg : Nat → Int32) (huvl : Nat → Int32) (hgln : Int32) (hgrw : Nat → Int32) (x1 : Int32) (x2 : Int32) (x3 : Int32) (r : Int32) (hkpt_o : Int32) (hsyn_o : Int32) (htkd_o : Nat → Int32) (htsz_o : Nat → Int32) (htlk_o : Nat → Int32) (hthm_o : Nat → Int32) (httg_o : Nat → Int32) (htvl_o : Nat → Int32) (hukd_o : Nat → Int32) (husz_o : Nat → Int32) (hulk_o : Nat → Int32) (huhm_o : Nat → Int32) (hutg_o : Nat → Int32) (huvl_o : Nat → Int32) (hgln_o : Int32) (hgrw_o : Nat → Int32) (hf : fX2_write x1 x2 x3 hlim hkpt hsyn htkd htsz htlk hthm httg htvl hukd husz hulk huhm hutg huvl hgln hgrw = some (r, hkpt_o, hsyn_o, htkd_o, htsz_o, htlk_o, hthm_o, httg_o, htvl_o, hukd_o, husz_o, hulk_o, huhm_o, hutg_o, huvl_o, hgln_o, hgrw_o)) : Met l yX2_write wsX2_write ({ frames := 6, cells := 0, slots := 0, locals := 126 } : Room) (pcW [.ref h0, .int x1, .int x2, .int x3] (dC, dI) vwCl [(cI, .int)] (wX2 cI h0 ht0 ht1 ht2 ht3 ht4 ht5 ht6 hu0 hu1 hu2 hu3 hu4 hu5 hu6 hg0 hg1 hlim hkpt hsyn htkd htsz htlk hthm httg htvl hukd husz hulk huhm hutg huvl hgln hgrw)) (qI r (va_P (dC, dI) vwCl (wX2 cI h0 ht0 ht1 ht2 ht3 ht4 ht5 ht6 hu0 hu1 hu2 hu3 hu4 hu5 hu6 hg0 hg1 hlim hkpt_o hsyn_o htkd_o htsz_o htlk_o hthm_o httg_o htvl_o hukd_o husz_o hulk_o huhm_o hutg_o huvl_o hgln_o hgrw_o)) (inA [h0, ht0, ht1, ht2, ht3, ht4, ht5, ht6, hu0, hu1, hu2, hu3, hu4, hu5, hu6, hg0, hg1])) 0 0 (inA [h0, ht0, ht1, ht2, ht3, ht4, ht5, ht6, hu0, hu1, hu2, hu3, hu4, hu5, hu6, hg0, hg1]) := by
  refine Met.ofW (cc := cX2_write) (maxL := 5) (ret := (some .int)) (by decide) rfl ?_
  intro p e s m args below meth c s₁ B hml hv
  obtain ⟨rfl, hP, hK, hD0⟩ := hv
  have hx := B.exec
  have hb := B.bytes
  have hr := B.returns
  have hts := atoms_spec (ws := wsX2_write) B.pre
  have hown : s.vm.findClass RX2 = some m.cls := findClass_of_methodNamed B.named
  have hlocks := B.notSynchronized
  have hD := my_self (as := [h0, ht0, ht1, ht2, ht3, ht4, ht5, ht6, hu0, hu1, hu2, hu3, hu4, hu5, hu6, hg0, hg1]) hD0 rfl
  have hS : va_S (inA [h0, ht0, ht1, ht2, ht3, ht4, ht5, ht6, hu0, hu1, hu2, hu3, hu4, hu5, hu6, hg0, hg1]) s.heap s.heap [] := va_S.rf
  have hl := lv_entry ([.ref h0, .int x1, .int x2, .int x3]) (n := 5) (Nat.le_of_ble_eq_true rfl)
  rw [lg_entry_eq]
  generalize (lg_sl ([.ref h0, .int x1, .int x2, .int x3]) ++ List.replicate (5 - (lg_sl ([.ref h0, .int x1, .int x2, .int x3])).length) Slot.unset).toArray = ls at hl ⊢
  have hl : lv_has ls 5 [(0, .ref h0), (1, .int x1), (2, .int x2), (3, .int x3)] := hl
  unfold fX2_write at hf
  refine lv_iload_n hx hb dX2_write_0 rfl (lv_at hl 1 rfl) ?_
  obtain ⟨r1, hc1, hf⟩ := bn1_e hf
  refine callRi (va_runS (As := [.int x1]) (rest := []) ⟨hx, hb, hml, hown, hts⟩ (cX2_isNode_met l dC dI cI x1 r1 hc1) (cwS 1 hts gX2_write_49 rfl rfl rfl (by decide +kernel) ⟨Nat.le_of_ble_eq_true rfl, Nat.le_of_ble_eq_true rfl⟩) (preRS hK (hP.sub (ws' := []) [] rfl)) rfl rfl hl.1 rfl (lv_room (Nat.le_of_ble_eq_true rfl)) dX2_write_1 ⟨Nat.le_of_ble_eq_true rfl, Nat.le_of_ble_eq_true rfl⟩) hS hP (fun H locs hP hS => ?_)
  refine lv_if_eq (tgt := 17) hx hb dX2_write_4 (by decide) (fun c4 => ?_) (fun c4 => ?_)
  · have hf := it_t c4 hf
    refine lv_iconst (v := -1) hx hb dX2_write_17 (by decide) ?_
    cases hf
    exact retI hx hb hr hlocks hP hS dX2_write_18
  · have hf := it_f c4 hf
    refine lv_iload_n hx hb dX2_write_7 rfl (lv_at hl 2 rfl) ?_
    refine lv_if_lt (tgt := 17) hx hb dX2_write_8 (by decide) (fun c8 => ?_) (fun c8 => ?_)
    · have hf := it_t c8 hf
      refine lv_iconst (v := -1) hx hb dX2_write_17 (by decide) ?_
      cases hf
      exact retI hx hb hr hlocks hP hS dX2_write_18
    · have hf := it_f c8 hf
      refine lv_iload_n hx hb dX2_write_11 rfl (lv_at hl 2 rfl) ?_
      refine lv_bipush (v := 8) hx hb dX2_write_12 (by decide) ?_
      refine lv_icmp_lt (tgt := 19) hx hb dX2_write_14 (by decide) (fun c14 => ?_) (fun c14 => ?_)
      · have hf := it_t c14 hf
        refine lv_aload_n hx hb dX2_write_19 rfl (lv_at hl 0 rfl) ?_
        refine va_get (D := (dC, dI)) (ci := 2) (v := .ref ht0) (C := RX2) (T := TX2) (N := 6) hx hb hts (fun w h => mc (inX2 w h)) hown hK hP 0 rfl rfl 1 (by decide) (hts _ (mc q_55)) (fun _ h9 => h9) rfl dX2_write_20 ?_
        refine lv_iload_n hx hb dX2_write_23 rfl (lv_at hl 1 rfl) ?_
        obtain ⟨r24, hc24, hf⟩ := bn1_e hf
        refine callRi (va_runV (As := [.int x1]) (rest := []) ⟨hx, hb, hml, hown, hts⟩ (cX1_isFile_met l dC dI cI ht0 ht1 ht2 ht3 ht4 ht5 ht6 htkd htsz htlk hthm httg htvl x1 r24 hc24) (cwV 1 hts gX2_write_80 rfl rfl rfl (by decide +kernel) ⟨Nat.le_of_ble_eq_true rfl, Nat.le_of_ble_eq_true rfl⟩) (preRV (ci := 1) (q0 := 0) hK (hP.sub (ws' := (wX1 cI ht0 ht1 ht2 ht3 ht4 ht5 ht6 htkd htsz htlk hthm httg htvl)) [1, 2, 3, 4, 5, 6, 7] rfl) rfl rfl) rfl rfl hl.1 rfl (lv_room (Nat.le_of_ble_eq_true rfl)) dX2_write_24 ⟨Nat.le_of_ble_eq_true rfl, Nat.le_of_ble_eq_true rfl⟩) hS hP (fun H locs hP hS => ?_)
        refine lv_if_ne (tgt := 33) hx hb dX2_write_27 (by decide) (fun c27 => ?_) (fun c27 => ?_)
        · have hf := it_f c27 hf
          refine lv_iload_n hx hb dX2_write_33 rfl (lv_at hl 2 rfl) ?_
          refine lv_aload_n hx hb dX2_write_34 rfl (lv_at hl 0 rfl) ?_
          refine va_get (D := (dC, dI)) (ci := 2) (v := .ref ht0) (C := RX2) (T := TX2) (N := 6) hx hb hts (fun w h => mc (inX2 w h)) hown hK hP 0 rfl rfl 1 (by decide) (hts _ (mc q_55)) (fun _ h9 => h9) rfl dX2_write_35 ?_
          refine lv_iload_n hx hb dX2_write_38 rfl (lv_at hl 1 rfl) ?_
          obtain ⟨r39, hc39, hf⟩ := bn1_e hf
          refine callRi (va_runV (As := [.int x1]) (rest := [.int x2]) ⟨hx, hb, hml, hown, hts⟩ (cX1_size_met l dC dI cI ht0 ht1 ht2 ht3 ht4 ht5 ht6 htkd htsz htlk hthm httg htvl x1 r39 hc39) (cwV 1 hts gX2_write_65 rfl rfl rfl (by decide +kernel) ⟨Nat.le_of_ble_eq_true rfl, Nat.le_of_ble_eq_true rfl⟩) (preRV (ci := 1) (q0 := 0) hK (hP.sub (ws' := (wX1 cI ht0 ht1 ht2 ht3 ht4 ht5 ht6 htkd htsz htlk hthm httg htvl)) [1, 2, 3, 4, 5, 6, 7] rfl) rfl rfl) rfl rfl hl.1 rfl (lv_room (Nat.le_of_ble_eq_true rfl)) dX2_write_39 ⟨Nat.le_of_ble_eq_true rfl, Nat.le_of_ble_eq_true rfl⟩) hS hP (fun H locs hP hS => ?_)
          refine lv_icmp_le (tgt := 47) hx hb dX2_write_42 (by decide) (fun c42 => ?_) (fun c42 => ?_)
          · have hf := it_t c42 hf
            refine lv_iconst (v := 1) hx hb dX2_write_47 (by decide) ?_
            refine lv_iconst (v := 1) hx hb dX2_write_48 (by decide) ?_
            obtain ⟨r49, hc49, hf⟩ := bn1_e hf
            refine callRi (va_runS (As := [.int 1, .int 1]) (rest := []) ⟨hx, hb, hml, hown, hts⟩ (cX2_costOf_met l dC dI cI 1 1 r49 hc49) (cwS 2 hts gX2_write_69 rfl rfl rfl (by decide +kernel) ⟨Nat.le_of_ble_eq_true rfl, Nat.le_of_ble_eq_true rfl⟩) (preRS hK (hP.sub (ws' := []) [] rfl)) rfl rfl hl.1 rfl (lv_room (Nat.le_of_ble_eq_true rfl)) dX2_write_49 ⟨Nat.le_of_ble_eq_true rfl, Nat.le_of_ble_eq_true rfl⟩) hS hP (fun H locs hP hS => ?_)
            refine lv_istore (lv' := [(4, .int r49), (0, .ref h0), (1, .int x1), (2, .int x2), (3, .int x3)]) hx hb dX2_write_52 hl (by decide) rfl (fun ls hl => ?_)
            refine lv_aload_n hx hb dX2_write_54 rfl (lv_at hl 1 rfl) ?_
            refine lv_iload hx hb dX2_write_55 (lv_at hl 0 rfl) ?_
            refine lv_iload_n hx hb dX2_write_57 rfl (lv_at hl 3 rfl) ?_
            refine lv_aload_n hx hb dX2_write_58 rfl (lv_at hl 1 rfl) ?_
            refine va_get (D := (dC, dI)) (ci := 2) (v := .ref ht0) (C := RX2) (T := TX2) (N := 6) hx hb hts (fun w h => mc (inX2 w h)) hown hK hP 0 rfl rfl 1 (by decide) (hts _ (mc q_55)) (fun _ h9 => h9) rfl dX2_write_59 ?_
            refine lv_iload_n hx hb dX2_write_62 rfl (lv_at hl 2 rfl) ?_
            obtain ⟨r63, hc63, hf⟩ := bn1_e hf
            refine callRi (va_runV (As := [.int x1]) (rest := [.int x2, .int r49, .ref h0]) ⟨hx, hb, hml, hown, hts⟩ (cX1_size_met l dC dI cI ht0 ht1 ht2 ht3 ht4 ht5 ht6 htkd htsz htlk hthm httg htvl x1 r63 hc63) (cwV 1 hts gX2_write_65 rfl rfl rfl (by decide +kernel) ⟨Nat.le_of_ble_eq_true rfl, Nat.le_of_ble_eq_true rfl⟩) (preRV (ci := 1) (q0 := 0) hK (hP.sub (ws' := (wX1 cI ht0 ht1 ht2 ht3 ht4 ht5 ht6 htkd htsz htlk hthm httg htvl)) [1, 2, 3, 4, 5, 6, 7] rfl) rfl rfl) rfl rfl hl.1 rfl (lv_room (Nat.le_of_ble_eq_true rfl)) dX2_write_63 ⟨Nat.le_of_ble_eq_true rfl, Nat.le_of_ble_eq_true rfl⟩) hS hP (fun H locs hP hS => ?_)
            refine lv_icmp_ne (tgt := 73) hx hb dX2_write_66 (by decide) (fun c66 => ?_) (fun c66 => ?_)
            · have hf := it_f c66 hf
              refine lv_iconst (v := 0) hx hb dX2_write_73 (by decide) ?_
              exact wbX2_write_74 hx hb hml hown hts hr hlocks hK h0 ht0 ht1 ht2 ht3 ht4 ht5 ht6 hu0 hu1 hu2 hu3 hu4 hu5 hu6 hg0 hg1 hlim r hkpt_o hsyn_o htkd_o htsz_o htlk_o hthm_o httg_o htvl_o hukd_o husz_o hulk_o huhm_o hutg_o huvl_o hgln_o hgrw_o x1 x2 x3 r49 0 r49 hkpt hsyn htkd htsz htlk hthm httg htvl hukd husz hulk huhm hutg huvl hgln hgrw _ _ hP hD hS _ (lv_sub hl [1, 2, 3, 4, 0] rfl) hf
            · have hf := it_t c66 hf
              refine lv_iconst (v := 1) hx hb dX2_write_69 (by decide) ?_
              refine lv_goto (tgt := 74) hx hb dX2_write_70 (by decide) ?_
              exact wbX2_write_74 hx hb hml hown hts hr hlocks hK h0 ht0 ht1 ht2 ht3 ht4 ht5 ht6 hu0 hu1 hu2 hu3 hu4 hu5 hu6 hg0 hg1 hlim r hkpt_o hsyn_o htkd_o htsz_o htlk_o hthm_o httg_o htvl_o hukd_o husz_o hulk_o huhm_o hutg_o huvl_o hgln_o hgrw_o x1 x2 x3 r49 1 r49 hkpt hsyn htkd htsz htlk hthm httg htvl hukd husz hulk huhm hutg huvl hgln hgrw _ _ hP hD hS _ (lv_sub hl [1, 2, 3, 4, 0] rfl) hf
          · have hf := it_f c42 hf
            refine lv_iconst (v := -1) hx hb dX2_write_45 (by decide) ?_
            cases hf
            exact retI hx hb hr hlocks hP hS dX2_write_46
        · have hf := it_t c27 hf
          refine lv_bipush (v := -2) hx hb dX2_write_30 (by decide) ?_
          cases hf
          exact retI hx hb hr hlocks hP hS dX2_write_32
      · have hf := it_f c14 hf
        refine lv_iconst (v := -1) hx hb dX2_write_17 (by decide) ?_
        cases hf
        exact retI hx hb hr hlocks hP hS dX2_write_18
theorem gX2_cut_49 : GoodIn wsX2_cut (wsS RX2 49 yX2_isNode wsX2_isNode) := gIn (memS q_64 q_65 q_1 q_66)
theorem gX2_cut_80 : GoodIn wsX2_cut (wsV RX2 80 RX1 yX1_isFile wsX1_isFile) := gIn (memV q_159 q_51 q_52 q_3 q_53)
theorem gX2_cut_65 : GoodIn wsX2_cut (wsV RX2 65 RX1 yX1_size wsX1_size) := gIn (memV q_82 q_83 q_84 q_3 q_85)
theorem gX2_cut_69 : GoodIn wsX2_cut (wsS RX2 69 yX2_costOf wsX2_costOf) := gIn (memS q_86 q_87 q_1 q_88)
theorem gX2_cut_72 : GoodIn wsX2_cut (wsV RX2 72 RX2 yX2_makesRoom wsX2_makesRoom) := gIn (memV q_89 q_90 q_344 q_1 q_91)
theorem gX2_cut_76 : GoodIn wsX2_cut (wsV RX2 76 RX2 yX2_perform wsX2_perform) := gIn (memV q_109 q_110 q_347 q_1 q_111)
set_option maxHeartbeats 4000000 in
set_option maxRecDepth 100000 in
theorem cX2_cut_met (l : Launch) (dC : Nat → ClassId) (dI : Nat → Nat → Nat) (cI : ClassId) (h0 ht0 ht1 ht2 ht3 ht4 ht5 ht6 hu0 hu1 hu2 hu3 hu4 hu5 hu6 hg0 hg1 : Nat) (hlim : Int32) (hkpt : Int32) (hsyn : Int32) (htkd : Nat → Int32) (htsz : Nat → Int32) (htlk : Nat → Int32) (hthm : Nat → Int32) (httg : Nat → Int32) (htvl : Nat → Int32) (hukd : Nat → Int32) (husz : Nat → Int32) (hulk : Nat → Int32) (huhm : Nat → Int32) (hutg : Nat → Int32) (huvl : Nat → Int32) (hgln : Int32) (hgrw : Nat → Int32) (x1 : Int32) (x2 : Int32) (r : Int32) (hkpt_o : Int32) (hsyn_o : Int32) (htkd_o : Nat → Int32) (htsz_o : Nat → Int32) (htlk_o : Nat → Int32) (hthm_o : Nat → Int32) (httg_o : Nat → Int32) (htvl_o : Nat → Int32) (hukd_o : Nat → Int32) (husz_o : Nat → Int32) (hulk_o : Nat → Int32) (huhm_o : Nat → Int32) (hutg_o : Nat → Int32) (huvl_o : Nat → Int32) (hgln_o : Int32) (hgrw_o : Nat → Int32) (hf : fX2_cut x1 x2 hlim hkpt hsyn htkd htsz htlk hthm httg htvl hukd husz hulk huhm hutg huvl hgln hgrw = some (r, hkpt_o, hsyn_o, htkd_o, htsz_o, htlk_o, hthm_o, httg_o, htvl_o, hukd_o, husz_o, hulk_o, huhm_o, hutg_o, huvl_o, hgln_o, hgrw_o)) : Met l yX2_cut wsX2_cut ({ frames := 6, cells := 0, slots := 0, locals := 126 } : Room) (pcW [.ref h0, .int x1, .int x2] (dC, dI) vwCl [(cI, .int)] (wX2 cI h0 ht0 ht1 ht2 ht3 ht4 ht5 ht6 hu0 hu1 hu2 hu3 hu4 hu5 hu6 hg0 hg1 hlim hkpt hsyn htkd htsz htlk hthm httg htvl hukd husz hulk huhm hutg huvl hgln hgrw)) (qI r (va_P (dC, dI) vwCl (wX2 cI h0 ht0 ht1 ht2 ht3 ht4 ht5 ht6 hu0 hu1 hu2 hu3 hu4 hu5 hu6 hg0 hg1 hlim hkpt_o hsyn_o htkd_o htsz_o htlk_o hthm_o httg_o htvl_o hukd_o husz_o hulk_o huhm_o hutg_o huvl_o hgln_o hgrw_o)) (inA [h0, ht0, ht1, ht2, ht3, ht4, ht5, ht6, hu0, hu1, hu2, hu3, hu4, hu5, hu6, hg0, hg1])) 0 0 (inA [h0, ht0, ht1, ht2, ht3, ht4, ht5, ht6, hu0, hu1, hu2, hu3, hu4, hu5, hu6, hg0, hg1]) := by
  refine Met.ofW (cc := cX2_cut) (maxL := 4) (ret := (some .int)) (by decide) rfl ?_
  intro p e s m args below meth c s₁ B hml hv
  obtain ⟨rfl, hP, hK, hD0⟩ := hv
  have hx := B.exec
  have hb := B.bytes
  have hr := B.returns
  have hts := atoms_spec (ws := wsX2_cut) B.pre
  have hown : s.vm.findClass RX2 = some m.cls := findClass_of_methodNamed B.named
  have hlocks := B.notSynchronized
  have hD := my_self (as := [h0, ht0, ht1, ht2, ht3, ht4, ht5, ht6, hu0, hu1, hu2, hu3, hu4, hu5, hu6, hg0, hg1]) hD0 rfl
  have hS : va_S (inA [h0, ht0, ht1, ht2, ht3, ht4, ht5, ht6, hu0, hu1, hu2, hu3, hu4, hu5, hu6, hg0, hg1]) s.heap s.heap [] := va_S.rf
  have hl := lv_entry ([.ref h0, .int x1, .int x2]) (n := 4) (Nat.le_of_ble_eq_true rfl)
  rw [lg_entry_eq]
  generalize (lg_sl ([.ref h0, .int x1, .int x2]) ++ List.replicate (4 - (lg_sl ([.ref h0, .int x1, .int x2])).length) Slot.unset).toArray = ls at hl ⊢
  have hl : lv_has ls 4 [(0, .ref h0), (1, .int x1), (2, .int x2)] := hl
  unfold fX2_cut at hf
  refine lv_iload_n hx hb dX2_cut_0 rfl (lv_at hl 1 rfl) ?_
  obtain ⟨r1, hc1, hf⟩ := bn1_e hf
  refine callRi (va_runS (As := [.int x1]) (rest := []) ⟨hx, hb, hml, hown, hts⟩ (cX2_isNode_met l dC dI cI x1 r1 hc1) (cwS 1 hts gX2_cut_49 rfl rfl rfl (by decide +kernel) ⟨Nat.le_of_ble_eq_true rfl, Nat.le_of_ble_eq_true rfl⟩) (preRS hK (hP.sub (ws' := []) [] rfl)) rfl rfl hl.1 rfl (lv_room (Nat.le_of_ble_eq_true rfl)) dX2_cut_1 ⟨Nat.le_of_ble_eq_true rfl, Nat.le_of_ble_eq_true rfl⟩) hS hP (fun H locs hP hS => ?_)
  refine lv_if_eq (tgt := 17) hx hb dX2_cut_4 (by decide) (fun c4 => ?_) (fun c4 => ?_)
  · have hf := it_t c4 hf
    refine lv_iconst (v := -1) hx hb dX2_cut_17 (by decide) ?_
    cases hf
    exact retI hx hb hr hlocks hP hS dX2_cut_18
  · have hf := it_f c4 hf
    refine lv_iload_n hx hb dX2_cut_7 rfl (lv_at hl 2 rfl) ?_
    refine lv_if_lt (tgt := 17) hx hb dX2_cut_8 (by decide) (fun c8 => ?_) (fun c8 => ?_)
    · have hf := it_t c8 hf
      refine lv_iconst (v := -1) hx hb dX2_cut_17 (by decide) ?_
      cases hf
      exact retI hx hb hr hlocks hP hS dX2_cut_18
    · have hf := it_f c8 hf
      refine lv_iload_n hx hb dX2_cut_11 rfl (lv_at hl 2 rfl) ?_
      refine lv_bipush (v := 8) hx hb dX2_cut_12 (by decide) ?_
      refine lv_icmp_le (tgt := 19) hx hb dX2_cut_14 (by decide) (fun c14 => ?_) (fun c14 => ?_)
      · have hf := it_t c14 hf
        refine lv_aload_n hx hb dX2_cut_19 rfl (lv_at hl 0 rfl) ?_
        refine va_get (D := (dC, dI)) (ci := 2) (v := .ref ht0) (C := RX2) (T := TX2) (N := 6) hx hb hts (fun w h => mc (inX2 w h)) hown hK hP 0 rfl rfl 1 (by decide) (hts _ (mc q_55)) (fun _ h9 => h9) rfl dX2_cut_20 ?_
        refine lv_iload_n hx hb dX2_cut_23 rfl (lv_at hl 1 rfl) ?_
        obtain ⟨r24, hc24, hf⟩ := bn1_e hf
        refine callRi (va_runV (As := [.int x1]) (rest := []) ⟨hx, hb, hml, hown, hts⟩ (cX1_isFile_met l dC dI cI ht0 ht1 ht2 ht3 ht4 ht5 ht6 htkd htsz htlk hthm httg htvl x1 r24 hc24) (cwV 1 hts gX2_cut_80 rfl rfl rfl (by decide +kernel) ⟨Nat.le_of_ble_eq_true rfl, Nat.le_of_ble_eq_true rfl⟩) (preRV (ci := 1) (q0 := 0) hK (hP.sub (ws' := (wX1 cI ht0 ht1 ht2 ht3 ht4 ht5 ht6 htkd htsz htlk hthm httg htvl)) [1, 2, 3, 4, 5, 6, 7] rfl) rfl rfl) rfl rfl hl.1 rfl (lv_room (Nat.le_of_ble_eq_true rfl)) dX2_cut_24 ⟨Nat.le_of_ble_eq_true rfl, Nat.le_of_ble_eq_true rfl⟩) hS hP (fun H locs hP hS => ?_)
        refine lv_if_ne (tgt := 33) hx hb dX2_cut_27 (by decide) (fun c27 => ?_) (fun c27 => ?_)
        · have hf := it_f c27 hf
          refine lv_iload_n hx hb dX2_cut_33 rfl (lv_at hl 2 rfl) ?_
          refine lv_aload_n hx hb dX2_cut_34 rfl (lv_at hl 0 rfl) ?_
          refine va_get (D := (dC, dI)) (ci := 2) (v := .ref ht0) (C := RX2) (T := TX2) (N := 6) hx hb hts (fun w h => mc (inX2 w h)) hown hK hP 0 rfl rfl 1 (by decide) (hts _ (mc q_55)) (fun _ h9 => h9) rfl dX2_cut_35 ?_
          refine lv_iload_n hx hb dX2_cut_38 rfl (lv_at hl 1 rfl) ?_
          obtain ⟨r39, hc39, hf⟩ := bn1_e hf
          refine callRi (va_runV (As := [.int x1]) (rest := [.int x2]) ⟨hx, hb, hml, hown, hts⟩ (cX1_size_met l dC dI cI ht0 ht1 ht2 ht3 ht4 ht5 ht6 htkd htsz htlk hthm httg htvl x1 r39 hc39) (cwV 1 hts gX2_cut_65 rfl rfl rfl (by decide +kernel) ⟨Nat.le_of_ble_eq_true rfl, Nat.le_of_ble_eq_true rfl⟩) (preRV (ci := 1) (q0 := 0) hK (hP.sub (ws' := (wX1 cI ht0 ht1 ht2 ht3 ht4 ht5 ht6 htkd htsz htlk hthm httg htvl)) [1, 2, 3, 4, 5, 6, 7] rfl) rfl rfl) rfl rfl hl.1 rfl (lv_room (Nat.le_of_ble_eq_true rfl)) dX2_cut_39 ⟨Nat.le_of_ble_eq_true rfl, Nat.le_of_ble_eq_true rfl⟩) hS hP (fun H locs hP hS => ?_)
          refine lv_icmp_le (tgt := 47) hx hb dX2_cut_42 (by decide) (fun c42 => ?_) (fun c42 => ?_)
          · have hf := it_t c42 hf
            refine lv_iconst (v := 1) hx hb dX2_cut_47 (by decide) ?_
            refine lv_iconst (v := 0) hx hb dX2_cut_48 (by decide) ?_
            obtain ⟨r49, hc49, hf⟩ := bn1_e hf
            refine callRi (va_runS (As := [.int 1, .int 0]) (rest := []) ⟨hx, hb, hml, hown, hts⟩ (cX2_costOf_met l dC dI cI 1 0 r49 hc49) (cwS 2 hts gX2_cut_69 rfl rfl rfl (by decide +kernel) ⟨Nat.le_of_ble_eq_true rfl, Nat.le_of_ble_eq_true rfl⟩) (preRS hK (hP.sub (ws' := []) [] rfl)) rfl rfl hl.1 rfl (lv_room (Nat.le_of_ble_eq_true rfl)) dX2_cut_49 ⟨Nat.le_of_ble_eq_true rfl, Nat.le_of_ble_eq_true rfl⟩) hS hP (fun H locs hP hS => ?_)
            refine lv_istore_n (lv' := [(3, .int r49), (0, .ref h0), (1, .int x1), (2, .int x2)]) hx hb dX2_cut_52 rfl hl (by decide) rfl (fun ls hl => ?_)
            refine lv_aload_n hx hb dX2_cut_53 rfl (lv_at hl 1 rfl) ?_
            refine lv_iload_n hx hb dX2_cut_54 rfl (lv_at hl 0 rfl) ?_
            refine lv_iload_n hx hb dX2_cut_55 rfl (lv_at hl 3 rfl) ?_
            refine lv_aload_n hx hb dX2_cut_56 rfl (lv_at hl 1 rfl) ?_
            refine va_get (D := (dC, dI)) (ci := 2) (v := .ref ht0) (C := RX2) (T := TX2) (N := 6) hx hb hts (fun w h => mc (inX2 w h)) hown hK hP 0 rfl rfl 1 (by decide) (hts _ (mc q_55)) (fun _ h9 => h9) rfl dX2_cut_57 ?_
            refine lv_iload_n hx hb dX2_cut_60 rfl (lv_at hl 2 rfl) ?_
            obtain ⟨r61, hc61, hf⟩ := bn1_e hf
            refine callRi (va_runV (As := [.int x1]) (rest := [.int x2, .int r49, .ref h0]) ⟨hx, hb, hml, hown, hts⟩ (cX1_size_met l dC dI cI ht0 ht1 ht2 ht3 ht4 ht5 ht6 htkd htsz htlk hthm httg htvl x1 r61 hc61) (cwV 1 hts gX2_cut_65 rfl rfl rfl (by decide +kernel) ⟨Nat.le_of_ble_eq_true rfl, Nat.le_of_ble_eq_true rfl⟩) (preRV (ci := 1) (q0 := 0) hK (hP.sub (ws' := (wX1 cI ht0 ht1 ht2 ht3 ht4 ht5 ht6 htkd htsz htlk hthm httg htvl)) [1, 2, 3, 4, 5, 6, 7] rfl) rfl rfl) rfl rfl hl.1 rfl (lv_room (Nat.le_of_ble_eq_true rfl)) dX2_cut_61 ⟨Nat.le_of_ble_eq_true rfl, Nat.le_of_ble_eq_true rfl⟩) hS hP (fun H locs hP hS => ?_)
            obtain ⟨v64, ev64, hf⟩ := slet_e hf
            refine lv_isub hx hb dX2_cut_64 ?_
            refine rw_nm ev64 ?_
            obtain ⟨r65, hkpt_65, hsyn_65, hukd_65, husz_65, hulk_65, huhm_65, hutg_65, huvl_65, hgln_65, hc65, hf⟩ := bn10_e hf
            refine callVi (w1 := (wX2 cI h0 ht0 ht1 ht2 ht3 ht4 ht5 ht6 hu0 hu1 hu2 hu3 hu4 hu5 hu6 hg0 hg1 hlim hkpt_65 hsyn_65 htkd htsz htlk hthm httg htvl hukd_65 husz_65 hulk_65 huhm_65 hutg_65 huvl_65 hgln_65 hgrw)) (va_runV (As := [.int r49, .int v64]) (rest := []) ⟨hx, hb, hml, hown, hts⟩ (cX2_makesRoom_met l dC dI cI h0 ht0 ht1 ht2 ht3 ht4 ht5 ht6 hu0 hu1 hu2 hu3 hu4 hu5 hu6 hg0 hg1 hlim hkpt hsyn htkd htsz htlk hthm httg htvl hukd husz hulk huhm hutg huvl hgln hgrw r49 v64 r65 hkpt_65 hsyn_65 hukd_65 husz_65 hulk_65 huhm_65 hutg_65 huvl_65 hgln_65 hc65) (cwV 2 hts gX2_cut_72 rfl rfl rfl (by decide +kernel) ⟨Nat.le_of_ble_eq_true rfl, Nat.le_of_ble_eq_true rfl⟩) (preWV (ci := 2) (q0 := 0) hK hP hD rfl rfl) rfl rfl hl.1 rfl (lv_room (Nat.le_of_ble_eq_true rfl)) dX2_cut_65 ⟨Nat.le_of_ble_eq_true rfl, Nat.le_of_ble_eq_true rfl⟩) hS hD rfl rfl (fun H locs hP hD hS => ?_)
            refine lv_if_ne (tgt := 74) hx hb dX2_cut_68 (by decide) (fun c68 => ?_) (fun c68 => ?_)
            · have hf := it_f c68 hf
              refine lv_aload_n hx hb dX2_cut_74 rfl (lv_at hl 1 rfl) ?_
              refine lv_iload_n hx hb dX2_cut_75 rfl (lv_at hl 0 rfl) ?_
              refine lv_iconst (v := 5) hx hb dX2_cut_76 (by decide) ?_
              refine lv_iload_n hx hb dX2_cut_77 rfl (lv_at hl 2 rfl) ?_
              refine lv_iload_n hx hb dX2_cut_78 rfl (lv_at hl 3 rfl) ?_
              refine lv_iconst (v := 0) hx hb dX2_cut_79 (by decide) ?_
              refine lv_iconst (v := 0) hx hb dX2_cut_80 (by decide) ?_
              obtain ⟨hkpt_81, htkd_81, htsz_81, htlk_81, hthm_81, httg_81, htvl_81, hgln_81, hgrw_81, hc81, hf⟩ := bn9_e hf
              refine callVv (w1 := (wX2 cI h0 ht0 ht1 ht2 ht3 ht4 ht5 ht6 hu0 hu1 hu2 hu3 hu4 hu5 hu6 hg0 hg1 hlim hkpt_81 hsyn_65 htkd_81 htsz_81 htlk_81 hthm_81 httg_81 htvl_81 hukd_65 husz_65 hulk_65 huhm_65 hutg_65 huvl_65 hgln_81 hgrw_81)) (va_runV (As := [.int r49, .int 5, .int x1, .int x2, .int 0, .int 0]) (rest := []) ⟨hx, hb, hml, hown, hts⟩ (cX2_perform_met l dC dI cI h0 ht0 ht1 ht2 ht3 ht4 ht5 ht6 hu0 hu1 hu2 hu3 hu4 hu5 hu6 hg0 hg1 hlim hkpt_65 hsyn_65 htkd htsz htlk hthm httg htvl hukd_65 husz_65 hulk_65 huhm_65 hutg_65 huvl_65 hgln_65 hgrw r49 5 x1 x2 0 0 hkpt_81 htkd_81 htsz_81 htlk_81 hthm_81 httg_81 htvl_81 hgln_81 hgrw_81 hc81) (cwV 6 hts gX2_cut_76 rfl rfl rfl (by decide +kernel) ⟨Nat.le_of_ble_eq_true rfl, Nat.le_of_ble_eq_true rfl⟩) (preWV (ci := 2) (q0 := 0) hK hP hD rfl rfl) rfl rfl hl.1 rfl (lv_room (Nat.le_of_ble_eq_true rfl)) dX2_cut_81 ⟨Nat.le_of_ble_eq_true rfl, Nat.le_of_ble_eq_true rfl⟩) hS hD rfl rfl (fun H locs hP hD hS => ?_)
              refine lv_iconst (v := 0) hx hb dX2_cut_84 (by decide) ?_
              cases hf
              exact retI hx hb hr hlocks hP hS dX2_cut_85
            · have hf := it_t c68 hf
              refine lv_bipush (v := -6) hx hb dX2_cut_71 (by decide) ?_
              cases hf
              exact retI hx hb hr hlocks hP hS dX2_cut_73
          · have hf := it_f c42 hf
            refine lv_iconst (v := -1) hx hb dX2_cut_45 (by decide) ?_
            cases hf
            exact retI hx hb hr hlocks hP hS dX2_cut_46
        · have hf := it_t c27 hf
          refine lv_bipush (v := -2) hx hb dX2_cut_30 (by decide) ?_
          cases hf
          exact retI hx hb hr hlocks hP hS dX2_cut_32
      · have hf := it_f c14 hf
        refine lv_iconst (v := -1) hx hb dX2_cut_17 (by decide) ?_
        cases hf
        exact retI hx hb hr hlocks hP hS dX2_cut_18
