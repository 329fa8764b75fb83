theorem gX2_rename_49 : GoodIn wsX2_rename (wsS RX2 49 yX2_isNode wsX2_isNode) := gIn (memS q_64 q_65 q_1 q_66)
theorem gX2_rename_53 : GoodIn wsX2_rename (wsS RX2 53 yX2_isName wsX2_isName) := gIn (memS q_67 q_68 q_1 q_69)
theorem gX2_rename_56 : GoodIn wsX2_rename (wsV RX2 56 RX1 yX1_isDirectory wsX1_isDirectory) := gIn (memV q_70 q_71 q_72 q_3 q_73)
theorem gX2_rename_59 : GoodIn wsX2_rename (wsV RX2 59 RX1 yX1_target wsX1_target) := gIn (memV q_74 q_75 q_76 q_3 q_77)
theorem gX2_rename_89 : GoodIn wsX2_rename (wsV RX2 89 RX1 yX1_liesIn wsX1_liesIn) := gIn (memV q_173 q_174 q_175 q_3 q_176)
theorem gX2_rename_65 : GoodIn wsX2_rename (wsV RX2 65 RX1 yX1_size wsX1_size) := gIn (memV q_82 q_83 q_84 q_3 q_85)
theorem gX2_rename_69 : GoodIn wsX2_rename (wsS RX2 69 yX2_costOf wsX2_costOf) := gIn (memS q_86 q_87 q_1 q_88)
theorem gX2_rename_72 : GoodIn wsX2_rename (wsV RX2 72 RX2 yX2_makesRoom wsX2_makesRoom) := gIn (memV q_89 q_90 q_344 q_1 q_91)
theorem gX2_rename_76 : GoodIn wsX2_rename (wsV RX2 76 RX2 yX2_perform wsX2_perform) := gIn (memV q_109 q_110 q_347 q_1 q_111)
set_option maxHeartbeats 4000000 in
set_option maxRecDepth 100000 in
theorem wbX2_rename_137 {p : Program} {l : Launch} {e : Env} {s : State} {m : MethodId} {args : Array Value} {below : List Frame} {meth : Method} {c : Code} {dC : Nat → ClassId} {dI : Nat → Nat → Nat} {cI : ClassId} (hx : p.tables.exec = Jvm.exec) (hb : c.code = cX2_rename) (hml : c.maxLocals = 6) (hown : s.vm.findClass RX2 = some m.cls) (hts : ∀ w ∈ wsX2_rename, w.before args s = true) (hr : meth.sig.returnType = (some .int)) (hlocks : meth.locks = false) (hK : va_K (dC, dI) vwCl [(cI, .int)] s) (h0 ht0 ht1 ht2 ht3 ht4 ht5 ht6 hu0 hu1 hu2 hu3 hu4 hu5 hu6 hg0 hg1 : Nat) (hlim : Int32) (r : Int32) (hkpt_o : Int32) (hsyn_o : Int32) (htkd_o : Nat → Int32) (htsz_o : Nat → Int32) (htlk_o : Nat → Int32) (hthm_o : Nat → Int32) (httg_o : Nat → Int32) (htvl_o : Nat → Int32) (hukd_o : Nat → Int32) (husz_o : Nat → Int32) (hulk_o : Nat → Int32) (huhm_o : Nat → Int32) (hutg_o : Nat → Int32) (huvl_o : Nat → Int32) (hgln_o : Int32) (hgrw_o : Nat → Int32) : ∀ (x1 : Int32) (x2 : Int32) (x3 : Int32) (x4 : Int32) (z0 : Int32) (hkpt : Int32) (hsyn : Int32) (htkd : Nat → Int32) (htsz : Nat → Int32) (htlk : Nat → Int32) (hthm : Nat → Int32) (httg : Nat → Int32) (htvl : Nat → Int32) (hukd : Nat → Int32) (husz : Nat → Int32) (hulk : Nat → Int32) (huhm : Nat → Int32) (hutg : Nat → Int32) (huvl : Nat → Int32) (hgln : Int32) (hgrw : Nat → Int32) (H : Heap) (locs : List Loc), va_P (dC, dI) vwCl (wX2 cI h0 ht0 ht1 ht2 ht3 ht4 ht5 ht6 hu0 hu1 hu2 hu3 hu4 hu5 hu6 hg0 hg1 hlim hkpt hsyn htkd htsz htlk hthm httg htvl hukd husz hulk huhm hutg huvl hgln hgrw) H → va_D (inA [h0, ht0, ht1, ht2, ht3, ht4, ht5, ht6, hu0, hu1, hu2, hu3, hu4, hu5, hu6, hg0, hg1]) (wX2 cI h0 ht0 ht1 ht2 ht3 ht4 ht5 ht6 hu0 hu1 hu2 hu3 hu4 hu5 hu6 hg0 hg1 hlim hkpt hsyn htkd htsz htlk hthm httg htvl hukd husz hulk huhm hutg huvl hgln hgrw) → va_S (inA [h0, ht0, ht1, ht2, ht3, ht4, ht5, ht6, hu0, hu1, hu2, hu3, hu4, hu5, hu6, hg0, hg1]) s.heap H locs → ∀ (ls : Array Slot), lv_has ls 6 [(0, .ref h0), (1, .int x1), (2, .int x2), (3, .int x3), (4, .int x4)] → fX2_rename_b137 hlim x1 x2 x3 x4 z0 hkpt hsyn htkd htsz htlk hthm httg htvl hukd husz hulk huhm hutg huvl hgln hgrw = some (r, hkpt_o, hsyn_o, htkd_o, htsz_o, htlk_o, hthm_o, httg_o, htvl_o, hukd_o, husz_o, hulk_o, huhm_o, hutg_o, huvl_o, hgln_o, hgrw_o) → W p l e ({ frames := 6, cells := 0, slots := 0, locals := 126 } : Room) s m args below meth c H locs 0 0 (MQ below (qI r (va_P (dC, dI) vwCl (wX2 cI h0 ht0 ht1 ht2 ht3 ht4 ht5 ht6 hu0 hu1 hu2 hu3 hu4 hu5 hu6 hg0 hg1 hlim hkpt_o hsyn_o htkd_o htsz_o htlk_o hthm_o httg_o htvl_o hukd_o husz_o hulk_o huhm_o hutg_o huvl_o hgln_o hgrw_o)) (inA [h0, ht0, ht1, ht2, ht3, ht4, ht5, ht6, hu0, hu1, hu2, hu3, hu4, hu5, hu6, hg0, hg1])) args s 0 0 (inA [h0, ht0, ht1, ht2, ht3, ht4, ht5, ht6, hu0, hu1, hu2, hu3, hu4, hu5, hu6, hg0, hg1])) (F0 m 137 ls [.int z0]) := by
  intro x1 x2 x3 x4 z0 hkpt hsyn htkd htsz htlk hthm httg htvl hukd husz hulk huhm hutg huvl hgln hgrw H locs hP hD hS ls hl hf
  unfold fX2_rename_b137 at hf
  refine lv_iconst (v := 0) hx hb dX2_rename_137 (by decide) ?_
  obtain ⟨r138, hc138, hf⟩ := bn1_e hf
  refine callRi (va_runS (As := [.int z0, .int 0]) (rest := []) ⟨hx, hb, hml, hown, hts⟩ (cX2_costOf_met l dC dI cI z0 0 r138 hc138) (cwS 2 hts gX2_rename_69 rfl rfl rfl (by decide +kernel) ⟨Nat.le_of_ble_eq_true rfl, Nat.le_of_ble_eq_true rfl⟩) (preRS hK (hP.sub (ws' := []) [] rfl)) rfl rfl hl.1 rfl (lv_room (Nat.le_of_ble_eq_true rfl)) dX2_rename_138 ⟨Nat.le_of_ble_eq_true rfl, Nat.le_of_ble_eq_true rfl⟩) hS hP (fun H locs hP hS => ?_)
  refine lv_istore (lv' := [(5, .int r138), (0, .ref h0), (1, .int x1), (2, .int x2), (3, .int x3), (4, .int x4)]) hx hb dX2_rename_141 hl (by decide) rfl (fun ls hl => ?_)
  refine lv_aload_n hx hb dX2_rename_143 rfl (lv_at hl 1 rfl) ?_
  refine lv_iload hx hb dX2_rename_144 (lv_at hl 0 rfl) ?_
  refine lv_iconst (v := 0) hx hb dX2_rename_146 (by decide) ?_
  obtain ⟨r147, hkpt_147, hsyn_147, hukd_147, husz_147, hulk_147, huhm_147, hutg_147, huvl_147, hgln_147, hc147, hf⟩ := bn10_e hf
  refine callVi (w1 := (wX2 cI h0 ht0 ht1 ht2 ht3 ht4 ht5 ht6 hu0 hu1 hu2 hu3 hu4 hu5 hu6 hg0 hg1 hlim hkpt_147 hsyn_147 htkd htsz htlk hthm httg htvl hukd_147 husz_147 hulk_147 huhm_147 hutg_147 huvl_147 hgln_147 hgrw)) (va_runV (As := [.int r138, .int 0]) (rest := []) ⟨hx, hb, hml, hown, hts⟩ (cX2_makesRoom_met l dC dI cI h0 ht0 ht1 ht2 ht3 ht4 ht5 ht6 hu0 hu1 hu2 hu3 hu4 hu5 hu6 hg0 hg1 hlim hkpt hsyn htkd htsz htlk hthm httg htvl hukd husz hulk huhm hutg huvl hgln hgrw r138 0 r147 hkpt_147 hsyn_147 hukd_147 husz_147 hulk_147 huhm_147 hutg_147 huvl_147 hgln_147 hc147) (cwV 2 hts gX2_rename_72 rfl rfl rfl (by decide +kernel) ⟨Nat.le_of_ble_eq_true rfl, Nat.le_of_ble_eq_true rfl⟩) (preWV (ci := 2) (q0 := 0) hK hP hD rfl rfl) rfl rfl hl.1 rfl (lv_room (Nat.le_of_ble_eq_true rfl)) dX2_rename_147 ⟨Nat.le_of_ble_eq_true rfl, Nat.le_of_ble_eq_true rfl⟩) hS hD rfl rfl (fun H locs hP hD hS => ?_)
  refine lv_if_ne (tgt := 156) hx hb dX2_rename_150 (by decide) (fun c150 => ?_) (fun c150 => ?_)
  · have hf := it_f c150 hf
    refine lv_aload_n hx hb dX2_rename_156 rfl (lv_at hl 1 rfl) ?_
    refine lv_iload hx hb dX2_rename_157 (lv_at hl 0 rfl) ?_
    refine lv_iconst (v := 3) hx hb dX2_rename_159 (by decide) ?_
    refine lv_iload_n hx hb dX2_rename_160 rfl (lv_at hl 2 rfl) ?_
    refine lv_iload_n hx hb dX2_rename_161 rfl (lv_at hl 3 rfl) ?_
    refine lv_iload_n hx hb dX2_rename_162 rfl (lv_at hl 4 rfl) ?_
    refine lv_iload hx hb dX2_rename_163 (lv_at hl 5 rfl) ?_
    obtain ⟨hkpt_165, htkd_165, htsz_165, htlk_165, hthm_165, httg_165, htvl_165, hgln_165, hgrw_165, hc165, hf⟩ := bn9_e hf
    refine callVv (w1 := (wX2 cI h0 ht0 ht1 ht2 ht3 ht4 ht5 ht6 hu0 hu1 hu2 hu3 hu4 hu5 hu6 hg0 hg1 hlim hkpt_165 hsyn_147 htkd_165 htsz_165 htlk_165 hthm_165 httg_165 htvl_165 hukd_147 husz_147 hulk_147 huhm_147 hutg_147 huvl_147 hgln_165 hgrw_165)) (va_runV (As := [.int r138, .int 3, .int x1, .int x2, .int x3, .int x4]) (rest := []) ⟨hx, hb, hml, hown, hts⟩ (cX2_perform_met l dC dI cI h0 ht0 ht1 ht2 ht3 ht4 ht5 ht6 hu0 hu1 hu2 hu3 hu4 hu5 hu6 hg0 hg1 hlim hkpt_147 hsyn_147 htkd htsz htlk hthm httg htvl hukd_147 husz_147 hulk_147 huhm_147 hutg_147 huvl_147 hgln_147 hgrw r138 3 x1 x2 x3 x4 hkpt_165 htkd_165 htsz_165 htlk_165 hthm_165 httg_165 htvl_165 hgln_165 hgrw_165 hc165) (cwV 6 hts gX2_rename_76 rfl rfl rfl (by decide +kernel) ⟨Nat.le_of_ble_eq_true rfl, Nat.le_of_ble_eq_true rfl⟩) (preWV (ci := 2) (q0 := 0) hK hP hD rfl rfl) rfl rfl hl.1 rfl (lv_room (Nat.le_of_ble_eq_true rfl)) dX2_rename_165 ⟨Nat.le_of_ble_eq_true rfl, Nat.le_of_ble_eq_true rfl⟩) hS hD rfl rfl (fun H locs hP hD hS => ?_)
    refine lv_iconst (v := 0) hx hb dX2_rename_168 (by decide) ?_
    cases hf
    exact retI hx hb hr hlocks hP hS dX2_rename_169
  · have hf := it_t c150 hf
    refine lv_bipush (v := -6) hx hb dX2_rename_153 (by decide) ?_
    cases hf
    exact retI hx hb hr hlocks hP hS dX2_rename_155
set_option maxHeartbeats 4000000 in
set_option maxRecDepth 100000 in
theorem wbX2_rename_127 {p : Program} {l : Launch} {e : Env} {s : State} {m : MethodId} {args : Array Value} {below : List Frame} {meth : Method} {c : Code} {dC : Nat → ClassId} {dI : Nat → Nat → Nat} {cI : ClassId} (hx : p.tables.exec = Jvm.exec) (hb : c.code = cX2_rename) (hml : c.maxLocals = 6) (hown : s.vm.findClass RX2 = some m.cls) (hts : ∀ w ∈ wsX2_rename, w.before args s = true) (hr : meth.sig.returnType = (some .int)) (hlocks : meth.locks = false) (hK : va_K (dC, dI) vwCl [(cI, .int)] s) (h0 ht0 ht1 ht2 ht3 ht4 ht5 ht6 hu0 hu1 hu2 hu3 hu4 hu5 hu6 hg0 hg1 : Nat) (hlim : Int32) (r : Int32) (hkpt_o : Int32) (hsyn_o : Int32) (htkd_o : Nat → Int32) (htsz_o : Nat → Int32) (htlk_o : Nat → Int32) (hthm_o : Nat → Int32) (httg_o : Nat → Int32) (htvl_o : Nat → Int32) (hukd_o : Nat → Int32) (husz_o : Nat → Int32) (hulk_o : Nat → Int32) (huhm_o : Nat → Int32) (hutg_o : Nat → Int32) (huvl_o : Nat → Int32) (hgln_o : Int32) (hgrw_o : Nat → Int32) : ∀ (x1 : Int32) (x2 : Int32) (x3 : Int32) (x4 : Int32) (hkpt : Int32) (hsyn : Int32) (htkd : Nat → Int32) (htsz : Nat → Int32) (htlk : Nat → Int32) (hthm : Nat → Int32) (httg : Nat → Int32) (htvl : Nat → Int32) (hukd : Nat → Int32) (husz : Nat → Int32) (hulk : Nat → Int32) (huhm : Nat → Int32) (hutg : Nat → Int32) (huvl : Nat → Int32) (hgln : Int32) (hgrw : Nat → Int32) (H : Heap) (locs : List Loc), va_P (dC, dI) vwCl (wX2 cI h0 ht0 ht1 ht2 ht3 ht4 ht5 ht6 hu0 hu1 hu2 hu3 hu4 hu5 hu6 hg0 hg1 hlim hkpt hsyn htkd htsz htlk hthm httg htvl hukd husz hulk huhm hutg huvl hgln hgrw) H → va_D (inA [h0, ht0, ht1, ht2, ht3, ht4, ht5, ht6, hu0, hu1, hu2, hu3, hu4, hu5, hu6, hg0, hg1]) (wX2 cI h0 ht0 ht1 ht2 ht3 ht4 ht5 ht6 hu0 hu1 hu2 hu3 hu4 hu5 hu6 hg0 hg1 hlim hkpt hsyn htkd htsz htlk hthm httg htvl hukd husz hulk huhm hutg huvl hgln hgrw) → va_S (inA [h0, ht0, ht1, ht2, ht3, ht4, ht5, ht6, hu0, hu1, hu2, hu3, hu4, hu5, hu6, hg0, hg1]) s.heap H locs → ∀ (ls : Array Slot), lv_has ls 6 [(0, .ref h0), (1, .int x1), (2, .int x2), (3, .int x3), (4, .int x4)] → fX2_rename_b127 hlim x1 x2 x3 x4 hkpt hsyn htkd htsz htlk hthm httg htvl hukd husz hulk huhm hutg huvl hgln hgrw = some (r, hkpt_o, hsyn_o, htkd_o, htsz_o, htlk_o, hthm_o, httg_o, htvl_o, hukd_o, husz_o, hulk_o, huhm_o, hutg_o, huvl_o, hgln_o, hgrw_o) → W p l e ({ frames := 6, cells := 0, slots := 0, locals := 126 } : Room) s m args below meth c H locs 0 0 (MQ below (qI r (va_P (dC, dI) vwCl (wX2 cI h0 ht0 ht1 ht2 ht3 ht4 ht5 ht6 hu0 hu1 hu2 hu3 hu4 hu5 hu6 hg0 hg1 hlim hkpt_o hsyn_o htkd_o htsz_o htlk_o hthm_o httg_o htvl_o hukd_o husz_o hulk_o huhm_o hutg_o huvl_o hgln_o hgrw_o)) (inA [h0, ht0, ht1, ht2, ht3, ht4, ht5, ht6, hu0, hu1, hu2, hu3, hu4, hu5, hu6, hg0, hg1])) args s 0 0 (inA [h0, ht0, ht1, ht2, ht3, ht4, ht5, ht6, hu0, hu1, hu2, hu3, hu4, hu5, hu6, hg0, hg1])) (F0 m 127 ls []) := by
  intro x1 x2 x3 x4 hkpt hsyn htkd htsz htlk hthm httg htvl hukd husz hulk huhm hutg huvl hgln hgrw H locs hP hD hS ls hl hf
  unfold fX2_rename_b127 at hf
  refine lv_iload_n hx hb dX2_rename_127 rfl (lv_at hl 3 rfl) ?_
  refine lv_iload_n hx hb dX2_rename_128 rfl (lv_at hl 1 rfl) ?_
  refine lv_icmp_ne (tgt := 136) hx hb dX2_rename_129 (by decide) (fun c129 => ?_) (fun c129 => ?_)
  · have hf := it_f c129 hf
    refine lv_iconst (v := 2) hx hb dX2_rename_136 (by decide) ?_
    exact wbX2_rename_137 hx hb hml hown hts hr hlocks hK h0 ht0 ht1 ht2 ht3 ht4 ht5 ht6 hu0 hu1 hu2 hu3 hu4 hu5 hu6 hg0 hg1 hlim r hkpt_o hsyn_o htkd_o htsz_o htlk_o hthm_o httg_o htvl_o hukd_o husz_o hulk_o huhm_o hutg_o huvl_o hgln_o hgrw_o x1 x2 x3 x4 2 hkpt hsyn htkd htsz htlk hthm httg htvl hukd husz hulk huhm hutg huvl hgln hgrw _ _ hP hD hS _ (lv_sub hl [0, 1, 2, 3, 4] rfl) hf
  · have hf := it_t c129 hf
    refine lv_iconst (v := 1) hx hb dX2_rename_132 (by decide) ?_
    refine lv_goto (tgt := 137) hx hb dX2_rename_133 (by decide) ?_
    exact wbX2_rename_137 hx hb hml hown hts hr hlocks hK h0 ht0 ht1 ht2 ht3 ht4 ht5 ht6 hu0 hu1 hu2 hu3 hu4 hu5 hu6 hg0 hg1 hlim r hkpt_o hsyn_o htkd_o htsz_o htlk_o hthm_o httg_o htvl_o hukd_o husz_o hulk_o huhm_o hutg_o huvl_o hgln_o hgrw_o x1 x2 x3 x4 1 hkpt hsyn htkd htsz htlk hthm httg htvl hukd husz hulk huhm hutg huvl hgln hgrw _ _ hP hD hS _ (lv_sub hl [0, 1, 2, 3, 4] rfl) hf
set_option maxHeartbeats 4000000 in
set_option maxRecDepth 100000 in
theorem cX2_rename_met (l : Launch) (dC : Nat → ClassId) (dI : Nat → Nat → Nat) (cI : ClassId) (h0 ht0 ht1 ht2 ht3 ht4 ht5 ht6 hu0 hu1 hu2 hu3 hu4 hu5 hu6 hg0 hg1 : Nat) (hlim : Int32) (hkpt : Int32) (hsyn : Int32) (htkd : Nat → Int32) (htsz : Nat → Int32) (htlk : Nat → Int32) (hthm : Nat → Int32) (httg : Nat → Int32) (htvl : Nat → Int32) (hukd : Nat → Int32) (husz : Nat → Int32) (hulk : Nat → Int32) (huhm : Nat → Int32) (hutg : Nat → Int32) (huvl : Nat → Int32) (hgln : Int32) (hgrw : Nat → Int32) (x1 : Int32) (x2 : Int32) (x3 : Int32) (x4 : Int32) (r : Int32) (hkpt_o : Int32) (hsyn_o : Int32) (htkd_o : Nat → Int32) (htsz_o : Nat → Int32) (htlk_o : Nat → Int32) (hthm_o : Nat → Int32) (httg_o : Nat → Int32) (htvl_o : Nat → Int32) (hukd_o : Nat → Int32) (husz_o : Nat → Int32) (hulk_o : Nat → Int32) (huhm_o : Nat → Int32) (hutg_o : Nat → Int32) (huvl_o : Nat → Int32) (hgln_o : Int32) (hgrw_o : Nat → Int32) (hf : fX2_rename x1 x2 x3 x4 hlim hkpt hsyn htkd htsz htlk hthm httg htvl hukd husz hulk huhm hutg huvl hgln hgrw = some (r, hkpt_o, hsyn_o, htkd_o, htsz_o, htlk_o, hthm_o, httg_o, htvl_o, hukd_o, husz_o, hulk_o, huhm_o, hutg_o, huvl_o, hgln_o, hgrw_o)) : Met l yX2_rename wsX2_rename ({ frames := 6, cells := 0, slots := 0, locals := 126 } : Room) (pcW [.ref h0, .int x1, .int x2, .int x3, .int x4] (dC, dI) vwCl [(cI, .int)] (wX2 cI h0 ht0 ht1 ht2 ht3 ht4 ht5 ht6 hu0 hu1 hu2 hu3 hu4 hu5 hu6 hg0 hg1 hlim hkpt hsyn htkd htsz htlk hthm httg htvl hukd husz hulk huhm hutg huvl hgln hgrw)) (qI r (va_P (dC, dI) vwCl (wX2 cI h0 ht0 ht1 ht2 ht3 ht4 ht5 ht6 hu0 hu1 hu2 hu3 hu4 hu5 hu6 hg0 hg1 hlim hkpt_o hsyn_o htkd_o htsz_o htlk_o hthm_o httg_o htvl_o hukd_o husz_o hulk_o huhm_o hutg_o huvl_o hgln_o hgrw_o)) (inA [h0, ht0, ht1, ht2, ht3, ht4, ht5, ht6, hu0, hu1, hu2, hu3, hu4, hu5, hu6, hg0, hg1])) 0 0 (inA [h0, ht0, ht1, ht2, ht3, ht4, ht5, ht6, hu0, hu1, hu2, hu3, hu4, hu5, hu6, hg0, hg1]) := by
  refine Met.ofW (cc := cX2_rename) (maxL := 6) (ret := (some .int)) (by decide) rfl ?_
  intro p e s m args below meth c s₁ B hml hv
  obtain ⟨rfl, hP, hK, hD0⟩ := hv
  have hx := B.exec
  have hb := B.bytes
  have hr := B.returns
  have hts := atoms_spec (ws := wsX2_rename) B.pre
  have hown : s.vm.findClass RX2 = some m.cls := findClass_of_methodNamed B.named
  have hlocks := B.notSynchronized
  have hD := my_self (as := [h0, ht0, ht1, ht2, ht3, ht4, ht5, ht6, hu0, hu1, hu2, hu3, hu4, hu5, hu6, hg0, hg1]) hD0 rfl
  have hS : va_S (inA [h0, ht0, ht1, ht2, ht3, ht4, ht5, ht6, hu0, hu1, hu2, hu3, hu4, hu5, hu6, hg0, hg1]) s.heap s.heap [] := va_S.rf
  have hl := lv_entry ([.ref h0, .int x1, .int x2, .int x3, .int x4]) (n := 6) (Nat.le_of_ble_eq_true rfl)
  rw [lg_entry_eq]
  generalize (lg_sl ([.ref h0, .int x1, .int x2, .int x3, .int x4]) ++ List.replicate (6 - (lg_sl ([.ref h0, .int x1, .int x2, .int x3, .int x4])).length) Slot.unset).toArray = ls at hl ⊢
  have hl : lv_has ls 6 [(0, .ref h0), (1, .int x1), (2, .int x2), (3, .int x3), (4, .int x4)] := hl
  unfold fX2_rename at hf
  refine lv_iload_n hx hb dX2_rename_0 rfl (lv_at hl 1 rfl) ?_
  obtain ⟨r1, hc1, hf⟩ := bn1_e hf
  refine callRi (va_runS (As := [.int x1]) (rest := []) ⟨hx, hb, hml, hown, hts⟩ (cX2_isNode_met l dC dI cI x1 r1 hc1) (cwS 1 hts gX2_rename_49 rfl rfl rfl (by decide +kernel) ⟨Nat.le_of_ble_eq_true rfl, Nat.le_of_ble_eq_true rfl⟩) (preRS hK (hP.sub (ws' := []) [] rfl)) rfl rfl hl.1 rfl (lv_room (Nat.le_of_ble_eq_true rfl)) dX2_rename_1 ⟨Nat.le_of_ble_eq_true rfl, Nat.le_of_ble_eq_true rfl⟩) hS hP (fun H locs hP hS => ?_)
  refine lv_if_eq (tgt := 29) hx hb dX2_rename_4 (by decide) (fun c4 => ?_) (fun c4 => ?_)
  · have hf := it_t c4 hf
    refine lv_iconst (v := -1) hx hb dX2_rename_29 (by decide) ?_
    cases hf
    exact retI hx hb hr hlocks hP hS dX2_rename_30
  · have hf := it_f c4 hf
    refine lv_iload_n hx hb dX2_rename_7 rfl (lv_at hl 2 rfl) ?_
    obtain ⟨r8, hc8, hf⟩ := bn1_e hf
    refine callRi (va_runS (As := [.int x2]) (rest := []) ⟨hx, hb, hml, hown, hts⟩ (cX2_isName_met l dC dI cI x2 r8 hc8) (cwS 1 hts gX2_rename_53 rfl rfl rfl (by decide +kernel) ⟨Nat.le_of_ble_eq_true rfl, Nat.le_of_ble_eq_true rfl⟩) (preRS hK (hP.sub (ws' := []) [] rfl)) rfl rfl hl.1 rfl (lv_room (Nat.le_of_ble_eq_true rfl)) dX2_rename_8 ⟨Nat.le_of_ble_eq_true rfl, Nat.le_of_ble_eq_true rfl⟩) hS hP (fun H locs hP hS => ?_)
    refine lv_if_eq (tgt := 29) hx hb dX2_rename_11 (by decide) (fun c11 => ?_) (fun c11 => ?_)
    · have hf := it_t c11 hf
      refine lv_iconst (v := -1) hx hb dX2_rename_29 (by decide) ?_
      cases hf
      exact retI hx hb hr hlocks hP hS dX2_rename_30
    · have hf := it_f c11 hf
      refine lv_iload_n hx hb dX2_rename_14 rfl (lv_at hl 3 rfl) ?_
      obtain ⟨r15, hc15, hf⟩ := bn1_e hf
      refine callRi (va_runS (As := [.int x3]) (rest := []) ⟨hx, hb, hml, hown, hts⟩ (cX2_isNode_met l dC dI cI x3 r15 hc15) (cwS 1 hts gX2_rename_49 rfl rfl rfl (by decide +kernel) ⟨Nat.le_of_ble_eq_true rfl, Nat.le_of_ble_eq_true rfl⟩) (preRS hK (hP.sub (ws' := []) [] rfl)) rfl rfl hl.1 rfl (lv_room (Nat.le_of_ble_eq_true rfl)) dX2_rename_15 ⟨Nat.le_of_ble_eq_true rfl, Nat.le_of_ble_eq_true rfl⟩) hS hP (fun H locs hP hS => ?_)
      refine lv_if_eq (tgt := 29) hx hb dX2_rename_18 (by decide) (fun c18 => ?_) (fun c18 => ?_)
      · have hf := it_t c18 hf
        refine lv_iconst (v := -1) hx hb dX2_rename_29 (by decide) ?_
        cases hf
        exact retI hx hb hr hlocks hP hS dX2_rename_30
      · have hf := it_f c18 hf
        refine lv_iload hx hb dX2_rename_21 (lv_at hl 4 rfl) ?_
        obtain ⟨r23, hc23, hf⟩ := bn1_e hf
        refine callRi (va_runS (As := [.int x4]) (rest := []) ⟨hx, hb, hml, hown, hts⟩ (cX2_isName_met l dC dI cI x4 r23 hc23) (cwS 1 hts gX2_rename_53 rfl rfl rfl (by decide +kernel) ⟨Nat.le_of_ble_eq_true rfl, Nat.le_of_ble_eq_true rfl⟩) (preRS hK (hP.sub (ws' := []) [] rfl)) rfl rfl hl.1 rfl (lv_room (Nat.le_of_ble_eq_true rfl)) dX2_rename_23 ⟨Nat.le_of_ble_eq_true rfl, Nat.le_of_ble_eq_true rfl⟩) hS hP (fun H locs hP hS => ?_)
        refine lv_if_ne (tgt := 31) hx hb dX2_rename_26 (by decide) (fun c26 => ?_) (fun c26 => ?_)
        · have hf := it_f c26 hf
          refine lv_aload_n hx hb dX2_rename_31 rfl (lv_at hl 0 rfl) ?_
          refine va_get (D := (dC, dI)) (ci := 2) (v := .ref ht0) (C := RX2) (T := TX2) (N := 6) hx hb hts (fun w h => mc (inX2 w h)) hown hK hP 0 rfl rfl 1 (by decide) (hts _ (mc q_55)) (fun _ h9 => h9) rfl dX2_rename_32 ?_
          refine lv_iload_n hx hb dX2_rename_35 rfl (lv_at hl 1 rfl) ?_
          obtain ⟨r36, hc36, hf⟩ := bn1_e hf
          refine callRi (va_runV (As := [.int x1]) (rest := []) ⟨hx, hb, hml, hown, hts⟩ (cX1_isDirectory_met l dC dI cI ht0 ht1 ht2 ht3 ht4 ht5 ht6 htkd htsz htlk hthm httg htvl x1 r36 hc36) (cwV 1 hts gX2_rename_56 rfl rfl rfl (by decide +kernel) ⟨Nat.le_of_ble_eq_true rfl, Nat.le_of_ble_eq_true rfl⟩) (preRV (ci := 1) (q0 := 0) hK (hP.sub (ws' := (wX1 cI ht0 ht1 ht2 ht3 ht4 ht5 ht6 htkd htsz htlk hthm httg htvl)) [1, 2, 3, 4, 5, 6, 7] rfl) rfl rfl) rfl rfl hl.1 rfl (lv_room (Nat.le_of_ble_eq_true rfl)) dX2_rename_36 ⟨Nat.le_of_ble_eq_true rfl, Nat.le_of_ble_eq_true rfl⟩) hS hP (fun H locs hP hS => ?_)
          refine lv_if_eq (tgt := 65) hx hb dX2_rename_39 (by decide) (fun c39 => ?_) (fun c39 => ?_)
          · have hf := it_t c39 hf
            refine lv_bipush (v := -2) hx hb dX2_rename_65 (by decide) ?_
            cases hf
            exact retI hx hb hr hlocks hP hS dX2_rename_67
          · have hf := it_f c39 hf
            refine lv_aload_n hx hb dX2_rename_42 rfl (lv_at hl 0 rfl) ?_
            refine va_get (D := (dC, dI)) (ci := 2) (v := .ref ht0) (C := RX2) (T := TX2) (N := 6) hx hb hts (fun w h => mc (inX2 w h)) hown hK hP 0 rfl rfl 1 (by decide) (hts _ (mc q_55)) (fun _ h9 => h9) rfl dX2_rename_43 ?_
            refine lv_iload_n hx hb dX2_rename_46 rfl (lv_at hl 3 rfl) ?_
            obtain ⟨r47, hc47, hf⟩ := bn1_e hf
            refine callRi (va_runV (As := [.int x3]) (rest := []) ⟨hx, hb, hml, hown, hts⟩ (cX1_isDirectory_met l dC dI cI ht0 ht1 ht2 ht3 ht4 ht5 ht6 htkd htsz htlk hthm httg htvl x3 r47 hc47) (cwV 1 hts gX2_rename_56 rfl rfl rfl (by decide +kernel) ⟨Nat.le_of_ble_eq_true rfl, Nat.le_of_ble_eq_true rfl⟩) (preRV (ci := 1) (q0 := 0) hK (hP.sub (ws' := (wX1 cI ht0 ht1 ht2 ht3 ht4 ht5 ht6 htkd htsz htlk hthm httg htvl)) [1, 2, 3, 4, 5, 6, 7] rfl) rfl rfl) rfl rfl hl.1 rfl (lv_room (Nat.le_of_ble_eq_true rfl)) dX2_rename_47 ⟨Nat.le_of_ble_eq_true rfl, Nat.le_of_ble_eq_true rfl⟩) hS hP (fun H locs hP hS => ?_)
            refine lv_if_eq (tgt := 65) hx hb dX2_rename_50 (by decide) (fun c50 => ?_) (fun c50 => ?_)
            · have hf := it_t c50 hf
              refine lv_bipush (v := -2) hx hb dX2_rename_65 (by decide) ?_
              cases hf
              exact retI hx hb hr hlocks hP hS dX2_rename_67
            · have hf := it_f c50 hf
              refine lv_aload_n hx hb dX2_rename_53 rfl (lv_at hl 0 rfl) ?_
              refine va_get (D := (dC, dI)) (ci := 2) (v := .ref ht0) (C := RX2) (T := TX2) (N := 6) hx hb hts (fun w h => mc (inX2 w h)) hown hK hP 0 rfl rfl 1 (by decide) (hts _ (mc q_55)) (fun _ h9 => h9) rfl dX2_rename_54 ?_
              refine lv_iload_n hx hb dX2_rename_57 rfl (lv_at hl 1 rfl) ?_
              refine lv_iload_n hx hb dX2_rename_58 rfl (lv_at hl 2 rfl) ?_
              obtain ⟨r59, hc59, hf⟩ := bn1_e hf
              refine callRi (va_runV (As := [.int x1, .int x2]) (rest := []) ⟨hx, hb, hml, hown, hts⟩ (cX1_target_met l dC dI cI ht0 ht1 ht2 ht3 ht4 ht5 ht6 htkd htsz htlk hthm httg htvl x1 x2 r59 hc59) (cwV 2 hts gX2_rename_59 rfl rfl rfl (by decide +kernel) ⟨Nat.le_of_ble_eq_true rfl, Nat.le_of_ble_eq_true rfl⟩) (preRV (ci := 1) (q0 := 0) hK (hP.sub (ws' := (wX1 cI ht0 ht1 ht2 ht3 ht4 ht5 ht6 htkd htsz htlk hthm httg htvl)) [1, 2, 3, 4, 5, 6, 7] rfl) rfl rfl) rfl rfl hl.1 rfl (lv_room (Nat.le_of_ble_eq_true rfl)) dX2_rename_59 ⟨Nat.le_of_ble_eq_true rfl, Nat.le_of_ble_eq_true rfl⟩) hS hP (fun H locs hP hS => ?_)
              refine lv_if_ne (tgt := 68) hx hb dX2_rename_62 (by decide) (fun c62 => ?_) (fun c62 => ?_)
              · have hf := it_f c62 hf
                refine lv_aload_n hx hb dX2_rename_68 rfl (lv_at hl 0 rfl) ?_
                refine va_get (D := (dC, dI)) (ci := 2) (v := .ref ht0) (C := RX2) (T := TX2) (N := 6) hx hb hts (fun w h => mc (inX2 w h)) hown hK hP 0 rfl rfl 1 (by decide) (hts _ (mc q_55)) (fun _ h9 => h9) rfl dX2_rename_69 ?_
                refine lv_iload_n hx hb dX2_rename_72 rfl (lv_at hl 3 rfl) ?_
                refine lv_iload hx hb dX2_rename_73 (lv_at hl 4 rfl) ?_
                obtain ⟨r75, hc75, hf⟩ := bn1_e hf
                refine callRi (va_runV (As := [.int x3, .int x4]) (rest := []) ⟨hx, hb, hml, hown, hts⟩ (cX1_target_met l dC dI cI ht0 ht1 ht2 ht3 ht4 ht5 ht6 htkd htsz htlk hthm httg htvl x3 x4 r75 hc75) (cwV 2 hts gX2_rename_59 rfl rfl rfl (by decide +kernel) ⟨Nat.le_of_ble_eq_true rfl, Nat.le_of_ble_eq_true rfl⟩) (preRV (ci := 1) (q0 := 0) hK (hP.sub (ws' := (wX1 cI ht0 ht1 ht2 ht3 ht4 ht5 ht6 htkd htsz htlk hthm httg htvl)) [1, 2, 3, 4, 5, 6, 7] rfl) rfl rfl) rfl rfl hl.1 rfl (lv_room (Nat.le_of_ble_eq_true rfl)) dX2_rename_75 ⟨Nat.le_of_ble_eq_true rfl, Nat.le_of_ble_eq_true rfl⟩) hS hP (fun H locs hP hS => ?_)
                refine lv_if_eq (tgt := 84) hx hb dX2_rename_78 (by decide) (fun c78 => ?_) (fun c78 => ?_)
                · have hf := it_t c78 hf
                  refine lv_aload_n hx hb dX2_rename_84 rfl (lv_at hl 0 rfl) ?_
                  refine va_get (D := (dC, dI)) (ci := 2) (v := .ref ht0) (C := RX2) (T := TX2) (N := 6) hx hb hts (fun w h => mc (inX2 w h)) hown hK hP 0 rfl rfl 1 (by decide) (hts _ (mc q_55)) (fun _ h9 => h9) rfl dX2_rename_85 ?_
                  refine lv_iload_n hx hb dX2_rename_88 rfl (lv_at hl 3 rfl) ?_
                  refine lv_aload_n hx hb dX2_rename_89 rfl (lv_at hl 0 rfl) ?_
                  refine va_get (D := (dC, dI)) (ci := 2) (v := .ref ht0) (C := RX2) (T := TX2) (N := 6) hx hb hts (fun w h => mc (inX2 w h)) hown hK hP 0 rfl rfl 1 (by decide) (hts _ (mc q_55)) (fun _ h9 => h9) rfl dX2_rename_90 ?_
                  refine lv_iload_n hx hb dX2_rename_93 rfl (lv_at hl 1 rfl) ?_
                  refine lv_iload_n hx hb dX2_rename_94 rfl (lv_at hl 2 rfl) ?_
                  obtain ⟨r95, hc95, hf⟩ := bn1_e hf
                  refine callRi (va_runV (As := [.int x1, .int x2]) (rest := [.int x3, .ref ht0]) ⟨hx, hb, hml, hown, hts⟩ (cX1_target_met l dC dI cI ht0 ht1 ht2 ht3 ht4 ht5 ht6 htkd htsz htlk hthm httg htvl x1 x2 r95 hc95) (cwV 2 hts gX2_rename_59 rfl rfl rfl (by decide +kernel) ⟨Nat.le_of_ble_eq_true rfl, Nat.le_of_ble_eq_true rfl⟩) (preRV (ci := 1) (q0 := 0) hK (hP.sub (ws' := (wX1 cI ht0 ht1 ht2 ht3 ht4 ht5 ht6 htkd htsz htlk hthm httg htvl)) [1, 2, 3, 4, 5, 6, 7] rfl) rfl rfl) rfl rfl hl.1 rfl (lv_room (Nat.le_of_ble_eq_true rfl)) dX2_rename_95 ⟨Nat.le_of_ble_eq_true rfl, Nat.le_of_ble_eq_true rfl⟩) hS hP (fun H locs hP hS => ?_)
                  obtain ⟨r98, hc98, hf⟩ := bn1_e hf
                  refine callRi (va_runV (As := [.int x3, .int r95]) (rest := []) ⟨hx, hb, hml, hown, hts⟩ (cX1_liesIn_met l dC dI cI ht0 ht1 ht2 ht3 ht4 ht5 ht6 htkd htsz htlk hthm httg htvl x3 r95 r98 hc98) (cwV 2 hts gX2_rename_89 rfl rfl rfl (by decide +kernel) ⟨Nat.le_of_ble_eq_true rfl, Nat.le_of_ble_eq_true rfl⟩) (preRV (ci := 1) (q0 := 0) hK (hP.sub (ws' := (wX1 cI ht0 ht1 ht2 ht3 ht4 ht5 ht6 htkd htsz htlk hthm httg htvl)) [1, 2, 3, 4, 5, 6, 7] rfl) rfl rfl) rfl rfl hl.1 rfl (lv_room (Nat.le_of_ble_eq_true rfl)) dX2_rename_98 ⟨Nat.le_of_ble_eq_true rfl, Nat.le_of_ble_eq_true rfl⟩) hS hP (fun H locs hP hS => ?_)
                  refine lv_if_eq (tgt := 106) hx hb dX2_rename_101 (by decide) (fun c101 => ?_) (fun c101 => ?_)
                  · have hf := it_t c101 hf
                    refine lv_iload_n hx hb dX2_rename_106 rfl (lv_at hl 3 rfl) ?_
                    refine lv_iload_n hx hb dX2_rename_107 rfl (lv_at hl 1 rfl) ?_
                    refine lv_icmp_eq (tgt := 127) hx hb dX2_rename_108 (by decide) (fun c108 => ?_) (fun c108 => ?_)
                    · have hf := it_t c108 hf
                      exact wbX2_rename_127 hx hb hml hown hts hr hlocks hK h0 ht0 ht1 ht2 ht3 ht4 ht5 ht6 hu0 hu1 hu2 hu3 hu4 hu5 hu6 hg0 hg1 hlim r hkpt_o hsyn_o htkd_o htsz_o htlk_o hthm_o httg_o htvl_o hukd_o husz_o hulk_o huhm_o hutg_o huvl_o hgln_o hgrw_o x1 x2 x3 x4 hkpt hsyn htkd htsz htlk hthm httg htvl hukd husz hulk huhm hutg huvl hgln hgrw _ _ hP hD hS _ (lv_sub hl [0, 1, 2, 3, 4] rfl) hf
                    · have hf := it_f c108 hf
                      refine lv_aload_n hx hb dX2_rename_111 rfl (lv_at hl 0 rfl) ?_
                      refine va_get (D := (dC, dI)) (ci := 2) (v := .ref ht0) (C := RX2) (T := TX2) (N := 6) hx hb hts (fun w h => mc (inX2 w h)) hown hK hP 0 rfl rfl 1 (by decide) (hts _ (mc q_55)) (fun _ h9 => h9) rfl dX2_rename_112 ?_
                      refine lv_iload_n hx hb dX2_rename_115 rfl (lv_at hl 3 rfl) ?_
                      obtain ⟨r116, hc116, hf⟩ := bn1_e hf
                      refine callRi (va_runV (As := [.int x3]) (rest := []) ⟨hx, hb, hml, hown, hts⟩ (cX1_size_met l dC dI cI ht0 ht1 ht2 ht3 ht4 ht5 ht6 htkd htsz htlk hthm httg htvl x3 r116 hc116) (cwV 1 hts gX2_rename_65 rfl rfl rfl (by decide +kernel) ⟨Nat.le_of_ble_eq_true rfl, Nat.le_of_ble_eq_true rfl⟩) (preRV (ci := 1) (q0 := 0) hK (hP.sub (ws' := (wX1 cI ht0 ht1 ht2 ht3 ht4 ht5 ht6 htkd htsz htlk hthm httg htvl)) [1, 2, 3, 4, 5, 6, 7] rfl) rfl rfl) rfl rfl hl.1 rfl (lv_room (Nat.le_of_ble_eq_true rfl)) dX2_rename_116 ⟨Nat.le_of_ble_eq_true rfl, Nat.le_of_ble_eq_true rfl⟩) hS hP (fun H locs hP hS => ?_)
                      refine lv_bipush (v := 8) hx hb dX2_rename_119 (by decide) ?_
                      refine lv_icmp_lt (tgt := 127) hx hb dX2_rename_121 (by decide) (fun c121 => ?_) (fun c121 => ?_)
                      · have hf := it_t c121 hf
                        exact wbX2_rename_127 hx hb hml hown hts hr hlocks hK h0 ht0 ht1 ht2 ht3 ht4 ht5 ht6 hu0 hu1 hu2 hu3 hu4 hu5 hu6 hg0 hg1 hlim r hkpt_o hsyn_o htkd_o htsz_o htlk_o hthm_o httg_o htvl_o hukd_o husz_o hulk_o huhm_o hutg_o huvl_o hgln_o hgrw_o x1 x2 x3 x4 hkpt hsyn htkd htsz htlk hthm httg htvl hukd husz hulk huhm hutg huvl hgln hgrw _ _ hP hD hS _ (lv_sub hl [0, 1, 2, 3, 4] rfl) hf
                      · have hf := it_f c121 hf
                        refine lv_bipush (v := -5) hx hb dX2_rename_124 (by decide) ?_
                        cases hf
                        exact retI hx hb hr hlocks hP hS dX2_rename_126
                  · have hf := it_f c101 hf
                    refine lv_iconst (v := -1) hx hb dX2_rename_104 (by decide) ?_
                    cases hf
                    exact retI hx hb hr hlocks hP hS dX2_rename_105
                · have hf := it_f c78 hf
                  refine lv_bipush (v := -3) hx hb dX2_rename_81 (by decide) ?_
                  cases hf
                  exact retI hx hb hr hlocks hP hS dX2_rename_83
              · have hf := it_t c62 hf
                refine lv_bipush (v := -2) hx hb dX2_rename_65 (by decide) ?_
                cases hf
                exact retI hx hb hr hlocks hP hS dX2_rename_67
        · have hf := it_t c26 hf
          refine lv_iconst (v := -1) hx hb dX2_rename_29 (by decide) ?_
          cases hf
          exact retI hx hb hr hlocks hP hS dX2_rename_30
