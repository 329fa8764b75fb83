theorem gX2_remove_49 : GoodIn wsX2_remove (wsS RX2 49 yX2_isNode wsX2_isNode) := gIn (memS q_64 q_65 q_1 q_66)
theorem gX2_remove_53 : GoodIn wsX2_remove (wsS RX2 53 yX2_isName wsX2_isName) := gIn (memS q_67 q_68 q_1 q_69)
theorem gX2_remove_56 : GoodIn wsX2_remove (wsV RX2 56 RX1 yX1_isDirectory wsX1_isDirectory) := gIn (memV q_70 q_71 q_72 q_3 q_73)
theorem gX2_remove_59 : GoodIn wsX2_remove (wsV RX2 59 RX1 yX1_target wsX1_target) := gIn (memV q_74 q_75 q_76 q_3 q_77)
theorem gX2_remove_65 : GoodIn wsX2_remove (wsV RX2 65 RX1 yX1_size wsX1_size) := gIn (memV q_82 q_83 q_84 q_3 q_85)
theorem gX2_remove_83 : GoodIn wsX2_remove (wsV RX2 83 RX1 yX1_links wsX1_links) := gIn (memV q_164 q_165 q_166 q_3 q_167)
theorem gX2_remove_69 : GoodIn wsX2_remove (wsS RX2 69 yX2_costOf wsX2_costOf) := gIn (memS q_86 q_87 q_1 q_88)
theorem gX2_remove_86 : GoodIn wsX2_remove (wsV RX2 86 RX1 yX1_blocks wsX1_blocks) := gIn (memV q_168 q_47 q_48 q_3 q_49)
theorem gX2_remove_72 : GoodIn wsX2_remove (wsV RX2 72 RX2 yX2_makesRoom wsX2_makesRoom) := gIn (memV q_89 q_90 q_344 q_1 q_91)
theorem gX2_remove_76 : GoodIn wsX2_remove (wsV RX2 76 RX2 yX2_perform wsX2_perform) := gIn (memV q_109 q_110 q_347 q_1 q_111)
set_option maxHeartbeats 4000000 in
set_option maxRecDepth 100000 in
theorem wbX2_remove_133 {p : Program} {l : Launch} {e : Env} {s : State} {m : MethodId} {args : Array Value} {below : List Frame} {meth : Method} {c : Code} {dC : Nat → ClassId} {dI : Nat → Nat → Nat} {cI : ClassId} (hx : p.tables.exec = Jvm.exec) (hb : c.code = cX2_remove) (hml : c.maxLocals = 6) (hown : s.vm.findClass RX2 = some m.cls) (hts : ∀ w ∈ wsX2_remove, w.before args s = true) (hr : meth.sig.returnType = (some .int)) (hlocks : meth.locks = false) (hK : va_K (dC, dI) vwCl [(cI, .int)] s) (h0 ht0 ht1 ht2 ht3 ht4 ht5 ht6 hu0 hu1 hu2 hu3 hu4 hu5 hu6 hg0 hg1 : Nat) (hlim : Int32) (r : Int32) (hkpt_o : Int32) (hsyn_o : Int32) (htkd_o : Nat → Int32) (htsz_o : Nat → Int32) (htlk_o : Nat → Int32) (hthm_o : Nat → Int32) (httg_o : Nat → Int32) (htvl_o : Nat → Int32) (hukd_o : Nat → Int32) (husz_o : Nat → Int32) (hulk_o : Nat → Int32) (huhm_o : Nat → Int32) (hutg_o : Nat → Int32) (huvl_o : Nat → Int32) (hgln_o : Int32) (hgrw_o : Nat → Int32) : ∀ (x1 : Int32) (x2 : Int32) (x5 : Int32) (z0 : Int32) (z1 : Int32) (hkpt : Int32) (hsyn : Int32) (htkd : Nat → Int32) (htsz : Nat → Int32) (htlk : Nat → Int32) (hthm : Nat → Int32) (httg : Nat → Int32) (htvl : Nat → Int32) (hukd : Nat → Int32) (husz : Nat → Int32) (hulk : Nat → Int32) (huhm : Nat → Int32) (hutg : Nat → Int32) (huvl : Nat → Int32) (hgln : Int32) (hgrw : Nat → Int32) (H : Heap) (locs : List Loc), va_P (dC, dI) vwCl (wX2 cI h0 ht0 ht1 ht2 ht3 ht4 ht5 ht6 hu0 hu1 hu2 hu3 hu4 hu5 hu6 hg0 hg1 hlim hkpt hsyn htkd htsz htlk hthm httg htvl hukd husz hulk huhm hutg huvl hgln hgrw) H → va_D (inA [h0, ht0, ht1, ht2, ht3, ht4, ht5, ht6, hu0, hu1, hu2, hu3, hu4, hu5, hu6, hg0, hg1]) (wX2 cI h0 ht0 ht1 ht2 ht3 ht4 ht5 ht6 hu0 hu1 hu2 hu3 hu4 hu5 hu6 hg0 hg1 hlim hkpt hsyn htkd htsz htlk hthm httg htvl hukd husz hulk huhm hutg huvl hgln hgrw) → va_S (inA [h0, ht0, ht1, ht2, ht3, ht4, ht5, ht6, hu0, hu1, hu2, hu3, hu4, hu5, hu6, hg0, hg1]) s.heap H locs → ∀ (ls : Array Slot), lv_has ls 6 [(0, .ref h0), (1, .int x1), (2, .int x2), (5, .int x5)] → fX2_remove_b133 hlim x1 x2 x5 z0 z1 hkpt hsyn htkd htsz htlk hthm httg htvl hukd husz hulk huhm hutg huvl hgln hgrw = some (r, hkpt_o, hsyn_o, htkd_o, htsz_o, htlk_o, hthm_o, httg_o, htvl_o, hukd_o, husz_o, hulk_o, huhm_o, hutg_o, huvl_o, hgln_o, hgrw_o) → W p l e ({ frames := 6, cells := 0, slots := 0, locals := 126 } : Room) s m args below meth c H locs 0 0 (MQ below (qI r (va_P (dC, dI) vwCl (wX2 cI h0 ht0 ht1 ht2 ht3 ht4 ht5 ht6 hu0 hu1 hu2 hu3 hu4 hu5 hu6 hg0 hg1 hlim hkpt_o hsyn_o htkd_o htsz_o htlk_o hthm_o httg_o htvl_o hukd_o husz_o hulk_o huhm_o hutg_o huvl_o hgln_o hgrw_o)) (inA [h0, ht0, ht1, ht2, ht3, ht4, ht5, ht6, hu0, hu1, hu2, hu3, hu4, hu5, hu6, hg0, hg1])) args s 0 0 (inA [h0, ht0, ht1, ht2, ht3, ht4, ht5, ht6, hu0, hu1, hu2, hu3, hu4, hu5, hu6, hg0, hg1])) (F0 m 133 ls [.int z0, .int z1, .ref h0]) := by
  intro x1 x2 x5 z0 z1 hkpt hsyn htkd htsz htlk hthm httg htvl hukd husz hulk huhm hutg huvl hgln hgrw H locs hP hD hS ls hl hf
  unfold fX2_remove_b133 at hf
  obtain ⟨r133, hkpt_133, hsyn_133, hukd_133, husz_133, hulk_133, huhm_133, hutg_133, huvl_133, hgln_133, hc133, hf⟩ := bn10_e hf
  refine callVi (w1 := (wX2 cI h0 ht0 ht1 ht2 ht3 ht4 ht5 ht6 hu0 hu1 hu2 hu3 hu4 hu5 hu6 hg0 hg1 hlim hkpt_133 hsyn_133 htkd htsz htlk hthm httg htvl hukd_133 husz_133 hulk_133 huhm_133 hutg_133 huvl_133 hgln_133 hgrw)) (va_runV (As := [.int z1, .int z0]) (rest := []) ⟨hx, hb, hml, hown, hts⟩ (cX2_makesRoom_met l dC dI cI h0 ht0 ht1 ht2 ht3 ht4 ht5 ht6 hu0 hu1 hu2 hu3 hu4 hu5 hu6 hg0 hg1 hlim hkpt hsyn htkd htsz htlk hthm httg htvl hukd husz hulk huhm hutg huvl hgln hgrw z1 z0 r133 hkpt_133 hsyn_133 hukd_133 husz_133 hulk_133 huhm_133 hutg_133 huvl_133 hgln_133 hc133) (cwV 2 hts gX2_remove_72 rfl rfl rfl (by decide +kernel) ⟨Nat.le_of_ble_eq_true rfl, Nat.le_of_ble_eq_true rfl⟩) (preWV (ci := 2) (q0 := 0) hK hP hD rfl rfl) rfl rfl hl.1 rfl (lv_room (Nat.le_of_ble_eq_true rfl)) dX2_remove_133 ⟨Nat.le_of_ble_eq_true rfl, Nat.le_of_ble_eq_true rfl⟩) hS hD rfl rfl (fun H locs hP hD hS => ?_)
  refine lv_if_ne (tgt := 142) hx hb dX2_remove_136 (by decide) (fun c136 => ?_) (fun c136 => ?_)
  · have hf := it_f c136 hf
    refine lv_aload_n hx hb dX2_remove_142 rfl (lv_at hl 0 rfl) ?_
    refine lv_iload hx hb dX2_remove_143 (lv_at hl 3 rfl) ?_
    refine lv_iconst (v := 2) hx hb dX2_remove_145 (by decide) ?_
    refine lv_iload_n hx hb dX2_remove_146 rfl (lv_at hl 1 rfl) ?_
    refine lv_iload_n hx hb dX2_remove_147 rfl (lv_at hl 2 rfl) ?_
    refine lv_iconst (v := 0) hx hb dX2_remove_148 (by decide) ?_
    refine lv_iconst (v := 0) hx hb dX2_remove_149 (by decide) ?_
    obtain ⟨hkpt_150, htkd_150, htsz_150, htlk_150, hthm_150, httg_150, htvl_150, hgln_150, hgrw_150, hc150, hf⟩ := bn9_e hf
    refine callVv (w1 := (wX2 cI h0 ht0 ht1 ht2 ht3 ht4 ht5 ht6 hu0 hu1 hu2 hu3 hu4 hu5 hu6 hg0 hg1 hlim hkpt_150 hsyn_133 htkd_150 htsz_150 htlk_150 hthm_150 httg_150 htvl_150 hukd_133 husz_133 hulk_133 huhm_133 hutg_133 huvl_133 hgln_150 hgrw_150)) (va_runV (As := [.int x5, .int 2, .int x1, .int x2, .int 0, .int 0]) (rest := []) ⟨hx, hb, hml, hown, hts⟩ (cX2_perform_met l dC dI cI h0 ht0 ht1 ht2 ht3 ht4 ht5 ht6 hu0 hu1 hu2 hu3 hu4 hu5 hu6 hg0 hg1 hlim hkpt_133 hsyn_133 htkd htsz htlk hthm httg htvl hukd_133 husz_133 hulk_133 huhm_133 hutg_133 huvl_133 hgln_133 hgrw x5 2 x1 x2 0 0 hkpt_150 htkd_150 htsz_150 htlk_150 hthm_150 httg_150 htvl_150 hgln_150 hgrw_150 hc150) (cwV 6 hts gX2_remove_76 rfl rfl rfl (by decide +kernel) ⟨Nat.le_of_ble_eq_true rfl, Nat.le_of_ble_eq_true rfl⟩) (preWV (ci := 2) (q0 := 0) hK hP hD rfl rfl) rfl rfl hl.1 rfl (lv_room (Nat.le_of_ble_eq_true rfl)) dX2_remove_150 ⟨Nat.le_of_ble_eq_true rfl, Nat.le_of_ble_eq_true rfl⟩) hS hD rfl rfl (fun H locs hP hD hS => ?_)
    refine lv_iconst (v := 0) hx hb dX2_remove_153 (by decide) ?_
    cases hf
    exact retI hx hb hr hlocks hP hS dX2_remove_154
  · have hf := it_t c136 hf
    refine lv_bipush (v := -6) hx hb dX2_remove_139 (by decide) ?_
    cases hf
    exact retI hx hb hr hlocks hP hS dX2_remove_141
set_option maxHeartbeats 4000000 in
set_option maxRecDepth 100000 in
theorem wbX2_remove_106 {p : Program} {l : Launch} {e : Env} {s : State} {m : MethodId} {args : Array Value} {below : List Frame} {meth : Method} {c : Code} {dC : Nat → ClassId} {dI : Nat → Nat → Nat} {cI : ClassId} (hx : p.tables.exec = Jvm.exec) (hb : c.code = cX2_remove) (hml : c.maxLocals = 6) (hown : s.vm.findClass RX2 = some m.cls) (hts : ∀ w ∈ wsX2_remove, w.before args s = true) (hr : meth.sig.returnType = (some .int)) (hlocks : meth.locks = false) (hK : va_K (dC, dI) vwCl [(cI, .int)] s) (h0 ht0 ht1 ht2 ht3 ht4 ht5 ht6 hu0 hu1 hu2 hu3 hu4 hu5 hu6 hg0 hg1 : Nat) (hlim : Int32) (r : Int32) (hkpt_o : Int32) (hsyn_o : Int32) (htkd_o : Nat → Int32) (htsz_o : Nat → Int32) (htlk_o : Nat → Int32) (hthm_o : Nat → Int32) (httg_o : Nat → Int32) (htvl_o : Nat → Int32) (hukd_o : Nat → Int32) (husz_o : Nat → Int32) (hulk_o : Nat → Int32) (huhm_o : Nat → Int32) (hutg_o : Nat → Int32) (huvl_o : Nat → Int32) (hgln_o : Int32) (hgrw_o : Nat → Int32) : ∀ (x1 : Int32) (x2 : Int32) (x3 : Int32) (x4 : Int32) (z0 : Int32) (hkpt : Int32) (hsyn : Int32) (htkd : Nat → Int32) (htsz : Nat → Int32) (htlk : Nat → Int32) (hthm : Nat → Int32) (httg : Nat → Int32) (htvl : Nat → Int32) (hukd : Nat → Int32) (husz : Nat → Int32) (hulk : Nat → Int32) (huhm : Nat → Int32) (hutg : Nat → Int32) (huvl : Nat → Int32) (hgln : Int32) (hgrw : Nat → Int32) (H : Heap) (locs : List Loc), va_P (dC, dI) vwCl (wX2 cI h0 ht0 ht1 ht2 ht3 ht4 ht5 ht6 hu0 hu1 hu2 hu3 hu4 hu5 hu6 hg0 hg1 hlim hkpt hsyn htkd htsz htlk hthm httg htvl hukd husz hulk huhm hutg huvl hgln hgrw) H → va_D (inA [h0, ht0, ht1, ht2, ht3, ht4, ht5, ht6, hu0, hu1, hu2, hu3, hu4, hu5, hu6, hg0, hg1]) (wX2 cI h0 ht0 ht1 ht2 ht3 ht4 ht5 ht6 hu0 hu1 hu2 hu3 hu4 hu5 hu6 hg0 hg1 hlim hkpt hsyn htkd htsz htlk hthm httg htvl hukd husz hulk huhm hutg huvl hgln hgrw) → va_S (inA [h0, ht0, ht1, ht2, ht3, ht4, ht5, ht6, hu0, hu1, hu2, hu3, hu4, hu5, hu6, hg0, hg1]) s.heap H locs → ∀ (ls : Array Slot), lv_has ls 6 [(0, .ref h0), (1, .int x1), (2, .int x2), (3, .int x3), (4, .int x4)] → fX2_remove_b106 hlim x1 x2 x3 x4 z0 hkpt hsyn htkd htsz htlk hthm httg htvl hukd husz hulk huhm hutg huvl hgln hgrw = some (r, hkpt_o, hsyn_o, htkd_o, htsz_o, htlk_o, hthm_o, httg_o, htvl_o, hukd_o, husz_o, hulk_o, huhm_o, hutg_o, huvl_o, hgln_o, hgrw_o) → W p l e ({ frames := 6, cells := 0, slots := 0, locals := 126 } : Room) s m args below meth c H locs 0 0 (MQ below (qI r (va_P (dC, dI) vwCl (wX2 cI h0 ht0 ht1 ht2 ht3 ht4 ht5 ht6 hu0 hu1 hu2 hu3 hu4 hu5 hu6 hg0 hg1 hlim hkpt_o hsyn_o htkd_o htsz_o htlk_o hthm_o httg_o htvl_o hukd_o husz_o hulk_o huhm_o hutg_o huvl_o hgln_o hgrw_o)) (inA [h0, ht0, ht1, ht2, ht3, ht4, ht5, ht6, hu0, hu1, hu2, hu3, hu4, hu5, hu6, hg0, hg1])) args s 0 0 (inA [h0, ht0, ht1, ht2, ht3, ht4, ht5, ht6, hu0, hu1, hu2, hu3, hu4, hu5, hu6, hg0, hg1])) (F0 m 106 ls [.int z0]) := by
  intro x1 x2 x3 x4 z0 hkpt hsyn htkd htsz htlk hthm httg htvl hukd husz hulk huhm hutg huvl hgln hgrw H locs hP hD hS ls hl hf
  unfold fX2_remove_b106 at hf
  refine lv_iconst (v := 0) hx hb dX2_remove_106 (by decide) ?_
  obtain ⟨r107, hc107, hf⟩ := bn1_e hf
  refine callRi (va_runS (As := [.int z0, .int 0]) (rest := []) ⟨hx, hb, hml, hown, hts⟩ (cX2_costOf_met l dC dI cI z0 0 r107 hc107) (cwS 2 hts gX2_remove_69 rfl rfl rfl (by decide +kernel) ⟨Nat.le_of_ble_eq_true rfl, Nat.le_of_ble_eq_true rfl⟩) (preRS hK (hP.sub (ws' := []) [] rfl)) rfl rfl hl.1 rfl (lv_room (Nat.le_of_ble_eq_true rfl)) dX2_remove_107 ⟨Nat.le_of_ble_eq_true rfl, Nat.le_of_ble_eq_true rfl⟩) hS hP (fun H locs hP hS => ?_)
  refine lv_istore (lv' := [(5, .int r107), (0, .ref h0), (1, .int x1), (2, .int x2), (3, .int x3), (4, .int x4)]) hx hb dX2_remove_110 hl (by decide) rfl (fun ls hl => ?_)
  refine lv_aload_n hx hb dX2_remove_112 rfl (lv_at hl 1 rfl) ?_
  refine lv_iload hx hb dX2_remove_113 (lv_at hl 0 rfl) ?_
  refine lv_iload hx hb dX2_remove_115 (lv_at hl 5 rfl) ?_
  refine lv_if_eq (tgt := 124) hx hb dX2_remove_117 (by decide) (fun c117 => ?_) (fun c117 => ?_)
  · have hf := it_t c117 hf
    refine lv_aload_n hx hb dX2_remove_124 rfl (lv_at hl 1 rfl) ?_
    refine va_get (D := (dC, dI)) (ci := 2) (v := .ref ht0) (C := RX2) (T := TX2) (N := 6) hx hb hts (fun w h => mc (inX2 w h)) hown hK hP 0 rfl rfl 1 (by decide) (hts _ (mc q_55)) (fun _ h9 => h9) rfl dX2_remove_125 ?_
    refine lv_iload_n hx hb dX2_remove_128 rfl (lv_at hl 4 rfl) ?_
    obtain ⟨r129, hc129, hf⟩ := bn1_e hf
    refine callRi (va_runV (As := [.int x3]) (rest := [.int r107, .ref h0]) ⟨hx, hb, hml, hown, hts⟩ (cX1_blocks_met l dC dI cI ht0 ht1 ht2 ht3 ht4 ht5 ht6 htkd htsz htlk hthm httg htvl x3 r129 hc129) (cwV 1 hts gX2_remove_86 rfl rfl rfl (by decide +kernel) ⟨Nat.le_of_ble_eq_true rfl, Nat.le_of_ble_eq_true rfl⟩) (preRV (ci := 1) (q0 := 0) hK (hP.sub (ws' := (wX1 cI ht0 ht1 ht2 ht3 ht4 ht5 ht6 htkd htsz htlk hthm httg htvl)) [1, 2, 3, 4, 5, 6, 7] rfl) rfl rfl) rfl rfl hl.1 rfl (lv_room (Nat.le_of_ble_eq_true rfl)) dX2_remove_129 ⟨Nat.le_of_ble_eq_true rfl, Nat.le_of_ble_eq_true rfl⟩) hS hP (fun H locs hP hS => ?_)
    obtain ⟨v132, ev132, hf⟩ := slet_e hf
    refine lv_ineg hx hb dX2_remove_132 ?_
    refine rw_nm ev132 ?_
    exact wbX2_remove_133 hx hb hml hown hts hr hlocks hK h0 ht0 ht1 ht2 ht3 ht4 ht5 ht6 hu0 hu1 hu2 hu3 hu4 hu5 hu6 hg0 hg1 hlim r hkpt_o hsyn_o htkd_o htsz_o htlk_o hthm_o httg_o htvl_o hukd_o husz_o hulk_o huhm_o hutg_o huvl_o hgln_o hgrw_o x1 x2 r107 v132 r107 hkpt hsyn htkd htsz htlk hthm httg htvl hukd husz hulk huhm hutg huvl hgln hgrw _ _ hP hD hS _ (lv_sub hl [1, 2, 3, 0] rfl) hf
  · have hf := it_f c117 hf
    refine lv_iconst (v := 0) hx hb dX2_remove_120 (by decide) ?_
    refine lv_goto (tgt := 133) hx hb dX2_remove_121 (by decide) ?_
    exact wbX2_remove_133 hx hb hml hown hts hr hlocks hK h0 ht0 ht1 ht2 ht3 ht4 ht5 ht6 hu0 hu1 hu2 hu3 hu4 hu5 hu6 hg0 hg1 hlim r hkpt_o hsyn_o htkd_o htsz_o htlk_o hthm_o httg_o htvl_o hukd_o husz_o hulk_o huhm_o hutg_o huvl_o hgln_o hgrw_o x1 x2 r107 0 r107 hkpt hsyn htkd htsz htlk hthm httg htvl hukd husz hulk huhm hutg huvl hgln hgrw _ _ hP hD hS _ (lv_sub hl [1, 2, 3, 0] rfl) hf
set_option maxHeartbeats 4000000 in
set_option maxRecDepth 100000 in
theorem wbX2_remove_94 {p : Program} {l : Launch} {e : Env} {s : State} {m : MethodId} {args : Array Value} {below : List Frame} {meth : Method} {c : Code} {dC : Nat → ClassId} {dI : Nat → Nat → Nat} {cI : ClassId} (hx : p.tables.exec = Jvm.exec) (hb : c.code = cX2_remove) (hml : c.maxLocals = 6) (hown : s.vm.findClass RX2 = some m.cls) (hts : ∀ w ∈ wsX2_remove, w.before args s = true) (hr : meth.sig.returnType = (some .int)) (hlocks : meth.locks = false) (hK : va_K (dC, dI) vwCl [(cI, .int)] s) (h0 ht0 ht1 ht2 ht3 ht4 ht5 ht6 hu0 hu1 hu2 hu3 hu4 hu5 hu6 hg0 hg1 : Nat) (hlim : Int32) (r : Int32) (hkpt_o : Int32) (hsyn_o : Int32) (htkd_o : Nat → Int32) (htsz_o : Nat → Int32) (htlk_o : Nat → Int32) (hthm_o : Nat → Int32) (httg_o : Nat → Int32) (htvl_o : Nat → Int32) (hukd_o : Nat → Int32) (husz_o : Nat → Int32) (hulk_o : Nat → Int32) (huhm_o : Nat → Int32) (hutg_o : Nat → Int32) (huvl_o : Nat → Int32) (hgln_o : Int32) (hgrw_o : Nat → Int32) : ∀ (x1 : Int32) (x2 : Int32) (x3 : Int32) (z0 : Int32) (hkpt : Int32) (hsyn : Int32) (htkd : Nat → Int32) (htsz : Nat → Int32) (htlk : Nat → Int32) (hthm : Nat → Int32) (httg : Nat → Int32) (htvl : Nat → Int32) (hukd : Nat → Int32) (husz : Nat → Int32) (hulk : Nat → Int32) (huhm : Nat → Int32) (hutg : Nat → Int32) (huvl : Nat → Int32) (hgln : Int32) (hgrw : Nat → Int32) (H : Heap) (locs : List Loc), va_P (dC, dI) vwCl (wX2 cI h0 ht0 ht1 ht2 ht3 ht4 ht5 ht6 hu0 hu1 hu2 hu3 hu4 hu5 hu6 hg0 hg1 hlim hkpt hsyn htkd htsz htlk hthm httg htvl hukd husz hulk huhm hutg huvl hgln hgrw) H → va_D (inA [h0, ht0, ht1, ht2, ht3, ht4, ht5, ht6, hu0, hu1, hu2, hu3, hu4, hu5, hu6, hg0, hg1]) (wX2 cI h0 ht0 ht1 ht2 ht3 ht4 ht5 ht6 hu0 hu1 hu2 hu3 hu4 hu5 hu6 hg0 hg1 hlim hkpt hsyn htkd htsz htlk hthm httg htvl hukd husz hulk huhm hutg huvl hgln hgrw) → va_S (inA [h0, ht0, ht1, ht2, ht3, ht4, ht5, ht6, hu0, hu1, hu2, hu3, hu4, hu5, hu6, hg0, hg1]) s.heap H locs → ∀ (ls : Array Slot), lv_has ls 6 [(0, .ref h0), (1, .int x1), (2, .int x2), (3, .int x3)] → fX2_remove_b94 hlim x1 x2 x3 z0 hkpt hsyn htkd htsz htlk hthm httg htvl hukd husz hulk huhm hutg huvl hgln hgrw = some (r, hkpt_o, hsyn_o, htkd_o, htsz_o, htlk_o, hthm_o, httg_o, htvl_o, hukd_o, husz_o, hulk_o, huhm_o, hutg_o, huvl_o, hgln_o, hgrw_o) → W p l e ({ frames := 6, cells := 0, slots := 0, locals := 126 } : Room) s m args below meth c H locs 0 0 (MQ below (qI r (va_P (dC, dI) vwCl (wX2 cI h0 ht0 ht1 ht2 ht3 ht4 ht5 ht6 hu0 hu1 hu2 hu3 hu4 hu5 hu6 hg0 hg1 hlim hkpt_o hsyn_o htkd_o htsz_o htlk_o hthm_o httg_o htvl_o hukd_o husz_o hulk_o huhm_o hutg_o huvl_o hgln_o hgrw_o)) (inA [h0, ht0, ht1, ht2, ht3, ht4, ht5, ht6, hu0, hu1, hu2, hu3, hu4, hu5, hu6, hg0, hg1])) args s 0 0 (inA [h0, ht0, ht1, ht2, ht3, ht4, ht5, ht6, hu0, hu1, hu2, hu3, hu4, hu5, hu6, hg0, hg1])) (F0 m 94 ls [.int z0]) := by
  intro x1 x2 x3 z0 hkpt hsyn htkd htsz htlk hthm httg htvl hukd husz hulk huhm hutg huvl hgln hgrw H locs hP hD hS ls hl hf
  unfold fX2_remove_b94 at hf
  refine lv_istore (lv' := [(4, .int z0), (0, .ref h0), (1, .int x1), (2, .int x2), (3, .int x3)]) hx hb dX2_remove_94 hl (by decide) rfl (fun ls hl => ?_)
  refine lv_iload hx hb dX2_remove_96 (lv_at hl 0 rfl) ?_
  refine lv_if_eq (tgt := 105) hx hb dX2_remove_98 (by decide) (fun c98 => ?_) (fun c98 => ?_)
  · have hf := it_t c98 hf
    refine lv_iconst (v := 1) hx hb dX2_remove_105 (by decide) ?_
    exact wbX2_remove_106 hx hb hml hown hts hr hlocks hK h0 ht0 ht1 ht2 ht3 ht4 ht5 ht6 hu0 hu1 hu2 hu3 hu4 hu5 hu6 hg0 hg1 hlim r hkpt_o hsyn_o htkd_o htsz_o htlk_o hthm_o httg_o htvl_o hukd_o husz_o hulk_o huhm_o hutg_o huvl_o hgln_o hgrw_o x1 x2 x3 z0 1 hkpt hsyn htkd htsz htlk hthm httg htvl hukd husz hulk huhm hutg huvl hgln hgrw _ _ hP hD hS _ (lv_sub hl [1, 2, 3, 4, 0] rfl) hf
  · have hf := it_f c98 hf
    refine lv_iconst (v := 2) hx hb dX2_remove_101 (by decide) ?_
    refine lv_goto (tgt := 106) hx hb dX2_remove_102 (by decide) ?_
    exact wbX2_remove_106 hx hb hml hown hts hr hlocks hK h0 ht0 ht1 ht2 ht3 ht4 ht5 ht6 hu0 hu1 hu2 hu3 hu4 hu5 hu6 hg0 hg1 hlim r hkpt_o hsyn_o htkd_o htsz_o htlk_o hthm_o httg_o htvl_o hukd_o husz_o hulk_o huhm_o hutg_o huvl_o hgln_o hgrw_o x1 x2 x3 z0 2 hkpt hsyn htkd htsz htlk hthm httg htvl hukd husz hulk huhm hutg huvl hgln hgrw _ _ hP hD hS _ (lv_sub hl [1, 2, 3, 4, 0] rfl) hf
set_option maxHeartbeats 4000000 in
set_option maxRecDepth 100000 in
theorem wbX2_remove_77 {p : Program} {l : Launch} {e : Env} {s : State} {m : MethodId} {args : Array Value} {below : List Frame} {meth : Method} {c : Code} {dC : Nat → ClassId} {dI : Nat → Nat → Nat} {cI : ClassId} (hx : p.tables.exec = Jvm.exec) (hb : c.code = cX2_remove) (hml : c.maxLocals = 6) (hown : s.vm.findClass RX2 = some m.cls) (hts : ∀ w ∈ wsX2_remove, w.before args s = true) (hr : meth.sig.returnType = (some .int)) (hlocks : meth.locks = false) (hK : va_K (dC, dI) vwCl [(cI, .int)] s) (h0 ht0 ht1 ht2 ht3 ht4 ht5 ht6 hu0 hu1 hu2 hu3 hu4 hu5 hu6 hg0 hg1 : Nat) (hlim : Int32) (r : Int32) (hkpt_o : Int32) (hsyn_o : Int32) (htkd_o : Nat → Int32) (htsz_o : Nat → Int32) (htlk_o : Nat → Int32) (hthm_o : Nat → Int32) (httg_o : Nat → Int32) (htvl_o : Nat → Int32) (hukd_o : Nat → Int32) (husz_o : Nat → Int32) (hulk_o : Nat → Int32) (huhm_o : Nat → Int32) (hutg_o : Nat → Int32) (huvl_o : Nat → Int32) (hgln_o : Int32) (hgrw_o : Nat → Int32) : ∀ (x1 : Int32) (x2 : Int32) (x3 : Int32) (hkpt : Int32) (hsyn : Int32) (htkd : Nat → Int32) (htsz : Nat → Int32) (htlk : Nat → Int32) (hthm : Nat → Int32) (httg : Nat → Int32) (htvl : Nat → Int32) (hukd : Nat → Int32) (husz : Nat → Int32) (hulk : Nat → Int32) (huhm : Nat → Int32) (hutg : Nat → Int32) (huvl : Nat → Int32) (hgln : Int32) (hgrw : Nat → Int32) (H : Heap) (locs : List Loc), va_P (dC, dI) vwCl (wX2 cI h0 ht0 ht1 ht2 ht3 ht4 ht5 ht6 hu0 hu1 hu2 hu3 hu4 hu5 hu6 hg0 hg1 hlim hkpt hsyn htkd htsz htlk hthm httg htvl hukd husz hulk huhm hutg huvl hgln hgrw) H → va_D (inA [h0, ht0, ht1, ht2, ht3, ht4, ht5, ht6, hu0, hu1, hu2, hu3, hu4, hu5, hu6, hg0, hg1]) (wX2 cI h0 ht0 ht1 ht2 ht3 ht4 ht5 ht6 hu0 hu1 hu2 hu3 hu4 hu5 hu6 hg0 hg1 hlim hkpt hsyn htkd htsz htlk hthm httg htvl hukd husz hulk huhm hutg huvl hgln hgrw) → va_S (inA [h0, ht0, ht1, ht2, ht3, ht4, ht5, ht6, hu0, hu1, hu2, hu3, hu4, hu5, hu6, hg0, hg1]) s.heap H locs → ∀ (ls : Array Slot), lv_has ls 6 [(0, .ref h0), (1, .int x1), (2, .int x2), (3, .int x3)] → fX2_remove_b77 hlim x1 x2 x3 hkpt hsyn htkd htsz htlk hthm httg htvl hukd husz hulk huhm hutg huvl hgln hgrw = some (r, hkpt_o, hsyn_o, htkd_o, htsz_o, htlk_o, hthm_o, httg_o, htvl_o, hukd_o, husz_o, hulk_o, huhm_o, hutg_o, huvl_o, hgln_o, hgrw_o) → W p l e ({ frames := 6, cells := 0, slots := 0, locals := 126 } : Room) s m args below meth c H locs 0 0 (MQ below (qI r (va_P (dC, dI) vwCl (wX2 cI h0 ht0 ht1 ht2 ht3 ht4 ht5 ht6 hu0 hu1 hu2 hu3 hu4 hu5 hu6 hg0 hg1 hlim hkpt_o hsyn_o htkd_o htsz_o htlk_o hthm_o httg_o htvl_o hukd_o husz_o hulk_o huhm_o hutg_o huvl_o hgln_o hgrw_o)) (inA [h0, ht0, ht1, ht2, ht3, ht4, ht5, ht6, hu0, hu1, hu2, hu3, hu4, hu5, hu6, hg0, hg1])) args s 0 0 (inA [h0, ht0, ht1, ht2, ht3, ht4, ht5, ht6, hu0, hu1, hu2, hu3, hu4, hu5, hu6, hg0, hg1])) (F0 m 77 ls []) := by
  intro x1 x2 x3 hkpt hsyn htkd htsz htlk hthm httg htvl hukd husz hulk huhm hutg huvl hgln hgrw H locs hP hD hS ls hl hf
  unfold fX2_remove_b77 at hf
  refine lv_aload_n hx hb dX2_remove_77 rfl (lv_at hl 0 rfl) ?_
  refine va_get (D := (dC, dI)) (ci := 2) (v := .ref ht0) (C := RX2) (T := TX2) (N := 6) hx hb hts (fun w h => mc (inX2 w h)) hown hK hP 0 rfl rfl 1 (by decide) (hts _ (mc q_55)) (fun _ h9 => h9) rfl dX2_remove_78 ?_
  refine lv_iload_n hx hb dX2_remove_81 rfl (lv_at hl 3 rfl) ?_
  obtain ⟨r82, hc82, hf⟩ := bn1_e hf
  refine callRi (va_runV (As := [.int x3]) (rest := []) ⟨hx, hb, hml, hown, hts⟩ (cX1_links_met l dC dI cI ht0 ht1 ht2 ht3 ht4 ht5 ht6 htkd htsz htlk hthm httg htvl x3 r82 hc82) (cwV 1 hts gX2_remove_83 rfl rfl rfl (by decide +kernel) ⟨Nat.le_of_ble_eq_true rfl, Nat.le_of_ble_eq_true rfl⟩) (preRV (ci := 1) (q0 := 0) hK (hP.sub (ws' := (wX1 cI ht0 ht1 ht2 ht3 ht4 ht5 ht6 htkd htsz htlk hthm httg htvl)) [1, 2, 3, 4, 5, 6, 7] rfl) rfl rfl) rfl rfl hl.1 rfl (lv_room (Nat.le_of_ble_eq_true rfl)) dX2_remove_82 ⟨Nat.le_of_ble_eq_true rfl, Nat.le_of_ble_eq_true rfl⟩) hS hP (fun H locs hP hS => ?_)
  refine lv_iconst (v := 1) hx hb dX2_remove_85 (by decide) ?_
  refine lv_icmp_le (tgt := 93) hx hb dX2_remove_86 (by decide) (fun c86 => ?_) (fun c86 => ?_)
  · have hf := it_t c86 hf
    refine lv_iconst (v := 0) hx hb dX2_remove_93 (by decide) ?_
    exact wbX2_remove_94 hx hb hml hown hts hr hlocks hK h0 ht0 ht1 ht2 ht3 ht4 ht5 ht6 hu0 hu1 hu2 hu3 hu4 hu5 hu6 hg0 hg1 hlim r hkpt_o hsyn_o htkd_o htsz_o htlk_o hthm_o httg_o htvl_o hukd_o husz_o hulk_o huhm_o hutg_o huvl_o hgln_o hgrw_o x1 x2 x3 0 hkpt hsyn htkd htsz htlk hthm httg htvl hukd husz hulk huhm hutg huvl hgln hgrw _ _ hP hD hS _ (lv_sub hl [0, 1, 2, 3] rfl) hf
  · have hf := it_f c86 hf
    refine lv_iconst (v := 1) hx hb dX2_remove_89 (by decide) ?_
    refine lv_goto (tgt := 94) hx hb dX2_remove_90 (by decide) ?_
    exact wbX2_remove_94 hx hb hml hown hts hr hlocks hK h0 ht0 ht1 ht2 ht3 ht4 ht5 ht6 hu0 hu1 hu2 hu3 hu4 hu5 hu6 hg0 hg1 hlim r hkpt_o hsyn_o htkd_o htsz_o htlk_o hthm_o httg_o htvl_o hukd_o husz_o hulk_o huhm_o hutg_o huvl_o hgln_o hgrw_o x1 x2 x3 1 hkpt hsyn htkd htsz htlk hthm httg htvl hukd husz hulk huhm hutg huvl hgln hgrw _ _ hP hD hS _ (lv_sub hl [0, 1, 2, 3] rfl) hf
set_option maxHeartbeats 4000000 in
set_option maxRecDepth 100000 in
theorem cX2_remove_met (l : Launch) (dC : Nat → ClassId) (dI : Nat → Nat → Nat) (cI : ClassId) (h0 ht0 ht1 ht2 ht3 ht4 ht5 ht6 hu0 hu1 hu2 hu3 hu4 hu5 hu6 hg0 hg1 : Nat) (hlim : Int32) (hkpt : Int32) (hsyn : Int32) (htkd : Nat → Int32) (htsz : Nat → Int32) (htlk : Nat → Int32) (hthm : Nat → Int32) (httg : Nat → Int32) (htvl : Nat → Int32) (hukd : Nat → Int32) (husz : Nat → Int32) (hulk : Nat → Int32) (huhm : Nat → Int32) (hutg : Nat → Int32) (huvl : Nat → Int32) (hgln : Int32) (hgrw : Nat → Int32) (x1 : Int32) (x2 : Int32) (r : Int32) (hkpt_o : Int32) (hsyn_o : Int32) (htkd_o : Nat → Int32) (htsz_o : Nat → Int32) (htlk_o : Nat → Int32) (hthm_o : Nat → Int32) (httg_o : Nat → Int32) (htvl_o : Nat → Int32) (hukd_o : Nat → Int32) (husz_o : Nat → Int32) (hulk_o : Nat → Int32) (huhm_o : Nat → Int32) (hutg_o : Nat → Int32) (huvl_o : Nat → Int32) (hgln_o : Int32) (hgrw_o : Nat → Int32) (hf : fX2_remove x1 x2 hlim hkpt hsyn htkd htsz htlk hthm httg htvl hukd husz hulk huhm hutg huvl hgln hgrw = some (r, hkpt_o, hsyn_o, htkd_o, htsz_o, htlk_o, hthm_o, httg_o, htvl_o, hukd_o, husz_o, hulk_o, huhm_o, hutg_o, huvl_o, hgln_o, hgrw_o)) : Met l yX2_remove wsX2_remove ({ frames := 6, cells := 0, slots := 0, locals := 126 } : Room) (pcW [.ref h0, .int x1, .int x2] (dC, dI) vwCl [(cI, .int)] (wX2 cI h0 ht0 ht1 ht2 ht3 ht4 ht5 ht6 hu0 hu1 hu2 hu3 hu4 hu5 hu6 hg0 hg1 hlim hkpt hsyn htkd htsz htlk hthm httg htvl hukd husz hulk huhm hutg huvl hgln hgrw)) (qI r (va_P (dC, dI) vwCl (wX2 cI h0 ht0 ht1 ht2 ht3 ht4 ht5 ht6 hu0 hu1 hu2 hu3 hu4 hu5 hu6 hg0 hg1 hlim hkpt_o hsyn_o htkd_o htsz_o htlk_o hthm_o httg_o htvl_o hukd_o husz_o hulk_o huhm_o hutg_o huvl_o hgln_o hgrw_o)) (inA [h0, ht0, ht1, ht2, ht3, ht4, ht5, ht6, hu0, hu1, hu2, hu3, hu4, hu5, hu6, hg0, hg1])) 0 0 (inA [h0, ht0, ht1, ht2, ht3, ht4, ht5, ht6, hu0, hu1, hu2, hu3, hu4, hu5, hu6, hg0, hg1]) := by
  refine Met.ofW (cc := cX2_remove) (maxL := 6) (ret := (some .int)) (by decide) rfl ?_
  intro p e s m args below meth c s₁ B hml hv
  obtain ⟨rfl, hP, hK, hD0⟩ := hv
  have hx := B.exec
  have hb := B.bytes
  have hr := B.returns
  have hts := atoms_spec (ws := wsX2_remove) B.pre
  have hown : s.vm.findClass RX2 = some m.cls := findClass_of_methodNamed B.named
  have hlocks := B.notSynchronized
  have hD := my_self (as := [h0, ht0, ht1, ht2, ht3, ht4, ht5, ht6, hu0, hu1, hu2, hu3, hu4, hu5, hu6, hg0, hg1]) hD0 rfl
  have hS : va_S (inA [h0, ht0, ht1, ht2, ht3, ht4, ht5, ht6, hu0, hu1, hu2, hu3, hu4, hu5, hu6, hg0, hg1]) s.heap s.heap [] := va_S.rf
  have hl := lv_entry ([.ref h0, .int x1, .int x2]) (n := 6) (Nat.le_of_ble_eq_true rfl)
  rw [lg_entry_eq]
  generalize (lg_sl ([.ref h0, .int x1, .int x2]) ++ List.replicate (6 - (lg_sl ([.ref h0, .int x1, .int x2])).length) Slot.unset).toArray = ls at hl ⊢
  have hl : lv_has ls 6 [(0, .ref h0), (1, .int x1), (2, .int x2)] := hl
  unfold fX2_remove at hf
  refine lv_iload_n hx hb dX2_remove_0 rfl (lv_at hl 1 rfl) ?_
  obtain ⟨r1, hc1, hf⟩ := bn1_e hf
  refine callRi (va_runS (As := [.int x1]) (rest := []) ⟨hx, hb, hml, hown, hts⟩ (cX2_isNode_met l dC dI cI x1 r1 hc1) (cwS 1 hts gX2_remove_49 rfl rfl rfl (by decide +kernel) ⟨Nat.le_of_ble_eq_true rfl, Nat.le_of_ble_eq_true rfl⟩) (preRS hK (hP.sub (ws' := []) [] rfl)) rfl rfl hl.1 rfl (lv_room (Nat.le_of_ble_eq_true rfl)) dX2_remove_1 ⟨Nat.le_of_ble_eq_true rfl, Nat.le_of_ble_eq_true rfl⟩) hS hP (fun H locs hP hS => ?_)
  refine lv_if_eq (tgt := 14) hx hb dX2_remove_4 (by decide) (fun c4 => ?_) (fun c4 => ?_)
  · have hf := it_t c4 hf
    refine lv_iconst (v := -1) hx hb dX2_remove_14 (by decide) ?_
    cases hf
    exact retI hx hb hr hlocks hP hS dX2_remove_15
  · have hf := it_f c4 hf
    refine lv_iload_n hx hb dX2_remove_7 rfl (lv_at hl 2 rfl) ?_
    obtain ⟨r8, hc8, hf⟩ := bn1_e hf
    refine callRi (va_runS (As := [.int x2]) (rest := []) ⟨hx, hb, hml, hown, hts⟩ (cX2_isName_met l dC dI cI x2 r8 hc8) (cwS 1 hts gX2_remove_53 rfl rfl rfl (by decide +kernel) ⟨Nat.le_of_ble_eq_true rfl, Nat.le_of_ble_eq_true rfl⟩) (preRS hK (hP.sub (ws' := []) [] rfl)) rfl rfl hl.1 rfl (lv_room (Nat.le_of_ble_eq_true rfl)) dX2_remove_8 ⟨Nat.le_of_ble_eq_true rfl, Nat.le_of_ble_eq_true rfl⟩) hS hP (fun H locs hP hS => ?_)
    refine lv_if_ne (tgt := 16) hx hb dX2_remove_11 (by decide) (fun c11 => ?_) (fun c11 => ?_)
    · have hf := it_f c11 hf
      refine lv_aload_n hx hb dX2_remove_16 rfl (lv_at hl 0 rfl) ?_
      refine va_get (D := (dC, dI)) (ci := 2) (v := .ref ht0) (C := RX2) (T := TX2) (N := 6) hx hb hts (fun w h => mc (inX2 w h)) hown hK hP 0 rfl rfl 1 (by decide) (hts _ (mc q_55)) (fun _ h9 => h9) rfl dX2_remove_17 ?_
      refine lv_iload_n hx hb dX2_remove_20 rfl (lv_at hl 1 rfl) ?_
      obtain ⟨r21, hc21, hf⟩ := bn1_e hf
      refine callRi (va_runV (As := [.int x1]) (rest := []) ⟨hx, hb, hml, hown, hts⟩ (cX1_isDirectory_met l dC dI cI ht0 ht1 ht2 ht3 ht4 ht5 ht6 htkd htsz htlk hthm httg htvl x1 r21 hc21) (cwV 1 hts gX2_remove_56 rfl rfl rfl (by decide +kernel) ⟨Nat.le_of_ble_eq_true rfl, Nat.le_of_ble_eq_true rfl⟩) (preRV (ci := 1) (q0 := 0) hK (hP.sub (ws' := (wX1 cI ht0 ht1 ht2 ht3 ht4 ht5 ht6 htkd htsz htlk hthm httg htvl)) [1, 2, 3, 4, 5, 6, 7] rfl) rfl rfl) rfl rfl hl.1 rfl (lv_room (Nat.le_of_ble_eq_true rfl)) dX2_remove_21 ⟨Nat.le_of_ble_eq_true rfl, Nat.le_of_ble_eq_true rfl⟩) hS hP (fun H locs hP hS => ?_)
      refine lv_if_eq (tgt := 39) hx hb dX2_remove_24 (by decide) (fun c24 => ?_) (fun c24 => ?_)
      · have hf := it_t c24 hf
        refine lv_bipush (v := -2) hx hb dX2_remove_39 (by decide) ?_
        cases hf
        exact retI hx hb hr hlocks hP hS dX2_remove_41
      · have hf := it_f c24 hf
        refine lv_aload_n hx hb dX2_remove_27 rfl (lv_at hl 0 rfl) ?_
        refine va_get (D := (dC, dI)) (ci := 2) (v := .ref ht0) (C := RX2) (T := TX2) (N := 6) hx hb hts (fun w h => mc (inX2 w h)) hown hK hP 0 rfl rfl 1 (by decide) (hts _ (mc q_55)) (fun _ h9 => h9) rfl dX2_remove_28 ?_
        refine lv_iload_n hx hb dX2_remove_31 rfl (lv_at hl 1 rfl) ?_
        refine lv_iload_n hx hb dX2_remove_32 rfl (lv_at hl 2 rfl) ?_
        obtain ⟨r33, hc33, hf⟩ := bn1_e hf
        refine callRi (va_runV (As := [.int x1, .int x2]) (rest := []) ⟨hx, hb, hml, hown, hts⟩ (cX1_target_met l dC dI cI ht0 ht1 ht2 ht3 ht4 ht5 ht6 htkd htsz htlk hthm httg htvl x1 x2 r33 hc33) (cwV 2 hts gX2_remove_59 rfl rfl rfl (by decide +kernel) ⟨Nat.le_of_ble_eq_true rfl, Nat.le_of_ble_eq_true rfl⟩) (preRV (ci := 1) (q0 := 0) hK (hP.sub (ws' := (wX1 cI ht0 ht1 ht2 ht3 ht4 ht5 ht6 htkd htsz htlk hthm httg htvl)) [1, 2, 3, 4, 5, 6, 7] rfl) rfl rfl) rfl rfl hl.1 rfl (lv_room (Nat.le_of_ble_eq_true rfl)) dX2_remove_33 ⟨Nat.le_of_ble_eq_true rfl, Nat.le_of_ble_eq_true rfl⟩) hS hP (fun H locs hP hS => ?_)
        refine lv_if_ne (tgt := 42) hx hb dX2_remove_36 (by decide) (fun c36 => ?_) (fun c36 => ?_)
        · have hf := it_f c36 hf
          refine lv_aload_n hx hb dX2_remove_42 rfl (lv_at hl 0 rfl) ?_
          refine va_get (D := (dC, dI)) (ci := 2) (v := .ref ht0) (C := RX2) (T := TX2) (N := 6) hx hb hts (fun w h => mc (inX2 w h)) hown hK hP 0 rfl rfl 1 (by decide) (hts _ (mc q_55)) (fun _ h9 => h9) rfl dX2_remove_43 ?_
          refine lv_iload_n hx hb dX2_remove_46 rfl (lv_at hl 1 rfl) ?_
          refine lv_iload_n hx hb dX2_remove_47 rfl (lv_at hl 2 rfl) ?_
          obtain ⟨r48, hc48, hf⟩ := bn1_e hf
          refine callRi (va_runV (As := [.int x1, .int x2]) (rest := []) ⟨hx, hb, hml, hown, hts⟩ (cX1_target_met l dC dI cI ht0 ht1 ht2 ht3 ht4 ht5 ht6 htkd htsz htlk hthm httg htvl x1 x2 r48 hc48) (cwV 2 hts gX2_remove_59 rfl rfl rfl (by decide +kernel) ⟨Nat.le_of_ble_eq_true rfl, Nat.le_of_ble_eq_true rfl⟩) (preRV (ci := 1) (q0 := 0) hK (hP.sub (ws' := (wX1 cI ht0 ht1 ht2 ht3 ht4 ht5 ht6 htkd htsz htlk hthm httg htvl)) [1, 2, 3, 4, 5, 6, 7] rfl) rfl rfl) rfl rfl hl.1 rfl (lv_room (Nat.le_of_ble_eq_true rfl)) dX2_remove_48 ⟨Nat.le_of_ble_eq_true rfl, Nat.le_of_ble_eq_true rfl⟩) hS hP (fun H locs hP hS => ?_)
          refine lv_istore_n (lv' := [(3, .int r48), (0, .ref h0), (1, .int x1), (2, .int x2)]) hx hb dX2_remove_51 rfl hl (by decide) rfl (fun ls hl => ?_)
          refine lv_aload_n hx hb dX2_remove_52 rfl (lv_at hl 1 rfl) ?_
          refine va_get (D := (dC, dI)) (ci := 2) (v := .ref ht0) (C := RX2) (T := TX2) (N := 6) hx hb hts (fun w h => mc (inX2 w h)) hown hK hP 0 rfl rfl 1 (by decide) (hts _ (mc q_55)) (fun _ h9 => h9) rfl dX2_remove_53 ?_
          refine lv_iload_n hx hb dX2_remove_56 rfl (lv_at hl 0 rfl) ?_
          obtain ⟨r57, hc57, hf⟩ := bn1_e hf
          refine callRi (va_runV (As := [.int r48]) (rest := []) ⟨hx, hb, hml, hown, hts⟩ (cX1_isDirectory_met l dC dI cI ht0 ht1 ht2 ht3 ht4 ht5 ht6 htkd htsz htlk hthm httg htvl r48 r57 hc57) (cwV 1 hts gX2_remove_56 rfl rfl rfl (by decide +kernel) ⟨Nat.le_of_ble_eq_true rfl, Nat.le_of_ble_eq_true rfl⟩) (preRV (ci := 1) (q0 := 0) hK (hP.sub (ws' := (wX1 cI ht0 ht1 ht2 ht3 ht4 ht5 ht6 htkd htsz htlk hthm httg htvl)) [1, 2, 3, 4, 5, 6, 7] rfl) rfl rfl) rfl rfl hl.1 rfl (lv_room (Nat.le_of_ble_eq_true rfl)) dX2_remove_57 ⟨Nat.le_of_ble_eq_true rfl, Nat.le_of_ble_eq_true rfl⟩) hS hP (fun H locs hP hS => ?_)
          refine lv_if_eq (tgt := 77) hx hb dX2_remove_60 (by decide) (fun c60 => ?_) (fun c60 => ?_)
          · have hf := it_t c60 hf
            exact wbX2_remove_77 hx hb hml hown hts hr hlocks hK h0 ht0 ht1 ht2 ht3 ht4 ht5 ht6 hu0 hu1 hu2 hu3 hu4 hu5 hu6 hg0 hg1 hlim r hkpt_o hsyn_o htkd_o htsz_o htlk_o hthm_o httg_o htvl_o hukd_o husz_o hulk_o huhm_o hutg_o huvl_o hgln_o hgrw_o x1 x2 r48 hkpt hsyn htkd htsz htlk hthm httg htvl hukd husz hulk huhm hutg huvl hgln hgrw _ _ hP hD hS _ (lv_sub hl [1, 2, 3, 0] rfl) hf
          · have hf := it_f c60 hf
            refine lv_aload_n hx hb dX2_remove_63 rfl (lv_at hl 1 rfl) ?_
            refine va_get (D := (dC, dI)) (ci := 2) (v := .ref ht0) (C := RX2) (T := TX2) (N := 6) hx hb hts (fun w h => mc (inX2 w h)) hown hK hP 0 rfl rfl 1 (by decide) (hts _ (mc q_55)) (fun _ h9 => h9) rfl dX2_remove_64 ?_
            refine lv_iload_n hx hb dX2_remove_67 rfl (lv_at hl 0 rfl) ?_
            obtain ⟨r68, hc68, hf⟩ := bn1_e hf
            refine callRi (va_runV (As := [.int r48]) (rest := []) ⟨hx, hb, hml, hown, hts⟩ (cX1_size_met l dC dI cI ht0 ht1 ht2 ht3 ht4 ht5 ht6 htkd htsz htlk hthm httg htvl r48 r68 hc68) (cwV 1 hts gX2_remove_65 rfl rfl rfl (by decide +kernel) ⟨Nat.le_of_ble_eq_true rfl, Nat.le_of_ble_eq_true rfl⟩) (preRV (ci := 1) (q0 := 0) hK (hP.sub (ws' := (wX1 cI ht0 ht1 ht2 ht3 ht4 ht5 ht6 htkd htsz htlk hthm httg htvl)) [1, 2, 3, 4, 5, 6, 7] rfl) rfl rfl) rfl rfl hl.1 rfl (lv_room (Nat.le_of_ble_eq_true rfl)) dX2_remove_68 ⟨Nat.le_of_ble_eq_true rfl, Nat.le_of_ble_eq_true rfl⟩) hS hP (fun H locs hP hS => ?_)
            refine lv_if_le (tgt := 77) hx hb dX2_remove_71 (by decide) (fun c71 => ?_) (fun c71 => ?_)
            · have hf := it_t c71 hf
              exact wbX2_remove_77 hx hb hml hown hts hr hlocks hK h0 ht0 ht1 ht2 ht3 ht4 ht5 ht6 hu0 hu1 hu2 hu3 hu4 hu5 hu6 hg0 hg1 hlim r hkpt_o hsyn_o htkd_o htsz_o htlk_o hthm_o httg_o htvl_o hukd_o husz_o hulk_o huhm_o hutg_o huvl_o hgln_o hgrw_o x1 x2 r48 hkpt hsyn htkd htsz htlk hthm httg htvl hukd husz hulk huhm hutg huvl hgln hgrw _ _ hP hD hS _ (lv_sub hl [1, 2, 3, 0] rfl) hf
            · have hf := it_f c71 hf
              refine lv_bipush (v := -4) hx hb dX2_remove_74 (by decide) ?_
              cases hf
              exact retI hx hb hr hlocks hP hS dX2_remove_76
        · have hf := it_t c36 hf
          refine lv_bipush (v := -2) hx hb dX2_remove_39 (by decide) ?_
          cases hf
          exact retI hx hb hr hlocks hP hS dX2_remove_41
    · have hf := it_t c11 hf
      refine lv_iconst (v := -1) hx hb dX2_remove_14 (by decide) ?_
      cases hf
      exact retI hx hb hr hlocks hP hS dX2_remove_15
