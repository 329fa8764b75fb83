set_option maxHeartbeats 4000000 in
set_option maxRecDepth 100000 in
theorem wbX3_copy_99 {p : Program} {l : Launch} {e : Env} {s : State} {m : MethodId} {args : Array Value} {below : List Frame} {meth : Method} {c : Code} {dC : Nat → ClassId} {dI : Nat → Nat → Nat} {cI : ClassId} (hx : p.tables.exec = Jvm.exec) (hb : c.code = cX3_copy) (hml : c.maxLocals = 4) (hown : s.vm.findClass RX3 = some m.cls) (hts : ∀ w ∈ wsX3_copy, w.before args s = true) (hr : meth.sig.returnType = none) (hlocks : meth.locks = false) (hK : va_K (dC, dI) vwCl [(cI, .int)] s) (m0 m1 m2 m3 m4 m5 : Nat) (mlim : Int32) (mkpt : Int32) (msyn : Int32) (mcn : Int32) (mch : Nat → Int32) (mkd_o : Nat → Int32) (msz_o : Nat → Int32) (mct_o : Nat → Int32) (men_o : Nat → Int32) : ∀ (n : Nat), ∀ (x1 : Int32) (x2 : Int32) (x3 : Int32) (mkd : Nat → Int32) (msz : Nat → Int32) (mct : Nat → Int32) (men : Nat → Int32) (H : Heap) (locs : List Loc), va_P (dC, dI) vwCl (wX3 cI m0 m1 m2 m3 m4 m5 mlim mkpt msyn mcn mkd msz mct men mch) H → va_D (inA [m0, m1, m2, m3, m4, m5]) (wX3 cI m0 m1 m2 m3 m4 m5 mlim mkpt msyn mcn mkd msz mct men mch) → va_S (inA [m0, m1, m2, m3, m4, m5]) s.heap H locs → ∀ (ls : Array Slot), lv_has ls 4 [(0, .ref m0), (1, .int x1), (2, .int x2), (3, .int x3)] → fX3_copy_b99 n x1 x2 x3 mkd msz mct men = some (mkd_o, msz_o, mct_o, men_o) → W p l e ({ frames := 0, cells := 0, slots := 0, locals := 0 } : Room) s m args below meth c H locs 0 0 (MQ below (qV (va_P (dC, dI) vwCl (wX3 cI m0 m1 m2 m3 m4 m5 mlim mkpt msyn mcn mkd_o msz_o mct_o men_o mch)) (inA [m0, m1, m2, m3, m4, m5])) args s 0 0 (inA [m0, m1, m2, m3, m4, m5])) (F0 m 99 ls []) := by
  intro n
  induction n with
  | zero =>
    intro x1 x2 x3 mkd msz mct men H locs hP hD hS ls hl hf
    cases hf
  | succ n ih =>
    intro x1 x2 x3 mkd msz mct men H locs hP hD hS ls hl hf
    rw [fX3_copy_b99] at hf
    refine lv_iload_n hx hb dX3_copy_99 rfl (lv_at hl 3 rfl) ?_
    refine lv_sipush (v := 512) hx hb dX3_copy_100 (by decide) ?_
    refine lv_icmp_ge (tgt := 136) hx hb dX3_copy_103 (by decide) (fun c103 => ?_) (fun c103 => ?_)
    · have hf := it_t c103 hf
      cases hf
      exact retV hx hb hr hlocks hP hS dX3_copy_136
    · have hf := it_f c103 hf
      refine lv_aload_n hx hb dX3_copy_106 rfl (lv_at hl 0 rfl) ?_
      refine va_get (D := (dC, dI)) (ci := 3) (v := .ref m4) (C := RX3) (T := TX3) (N := 9) hx hb hts (fun w h => mc (inX3 w h)) hown hK hP 0 rfl rfl 4 (by decide) (hts _ (mc q_246)) (fun _ h9 => h9) rfl dX3_copy_107 ?_
      refine lv_sipush (v := 512) hx hb dX3_copy_110 (by decide) ?_
      refine lv_iload_n hx hb dX3_copy_113 rfl (lv_at hl 2 rfl) ?_
      obtain ⟨v114, ev114, hf⟩ := slet_e hf
      refine lv_imul hx hb dX3_copy_114 ?_
      refine rw_nm ev114 ?_
      refine lv_iload_n hx hb dX3_copy_115 rfl (lv_at hl 3 rfl) ?_
      obtain ⟨v116, ev116, hf⟩ := slet_e hf
      refine lv_iadd hx hb dX3_copy_116 ?_
      refine rw_nm ev116 ?_
      refine lv_aload_n hx hb dX3_copy_117 rfl (lv_at hl 0 rfl) ?_
      refine va_get (D := (dC, dI)) (ci := 3) (v := .ref m4) (C := RX3) (T := TX3) (N := 9) hx hb hts (fun w h => mc (inX3 w h)) hown hK hP 0 rfl rfl 4 (by decide) (hts _ (mc q_246)) (fun _ h9 => h9) rfl dX3_copy_118 ?_
      refine lv_sipush (v := 512) hx hb dX3_copy_121 (by decide) ?_
      refine lv_iload_n hx hb dX3_copy_124 rfl (lv_at hl 1 rfl) ?_
      obtain ⟨v125, ev125, hf⟩ := slet_e hf
      refine lv_imul hx hb dX3_copy_125 ?_
      refine rw_nm ev125 ?_
      refine lv_iload_n hx hb dX3_copy_126 rfl (lv_at hl 3 rfl) ?_
      obtain ⟨v127, ev127, hf⟩ := slet_e hf
      refine lv_iadd hx hb dX3_copy_127 ?_
      refine rw_nm ev127 ?_
      obtain ⟨hiv128, v128, ev128, hf⟩ := ard_e hf
      refine rw_ald hx hb hK hP 4 0 rfl rfl hiv128 ev128 dX3_copy_128 ?_
      obtain ⟨himen_129, men_129, emen_129, hf⟩ := awr_e hf
      refine rw_ast (ws' := (wX3 cI m0 m1 m2 m3 m4 m5 mlim mkpt msyn mcn mkd msz mct men_129 mch)) hx hb hK hP hD hS 4 0 rfl rfl himen_129 emen_129 rfl dX3_copy_129 (fun H locs hP hD hS => ?_)
      obtain ⟨v130, ev130, hf⟩ := slet_e hf
      refine lv_iinc (v := v130) (lv' := [(3, .int v130), (0, .ref m0), (1, .int x1), (2, .int x2)]) hx hb dX3_copy_130 hl (k := 3) rfl (by rw [ev130]; rfl) (by decide) rfl (fun ls hl => ?_)
      refine lv_goto (tgt := 99) hx hb dX3_copy_133 (by decide) ?_
      exact ih x1 x2 v130 mkd msz mct men_129 _ _ hP hD hS _ (lv_sub hl [1, 2, 3, 0] rfl) hf
set_option maxHeartbeats 4000000 in
set_option maxRecDepth 100000 in
theorem wbX3_copy_60 {p : Program} {l : Launch} {e : Env} {s : State} {m : MethodId} {args : Array Value} {below : List Frame} {meth : Method} {c : Code} {dC : Nat → ClassId} {dI : Nat → Nat → Nat} {cI : ClassId} (hx : p.tables.exec = Jvm.exec) (hb : c.code = cX3_copy) (hml : c.maxLocals = 4) (hown : s.vm.findClass RX3 = some m.cls) (hts : ∀ w ∈ wsX3_copy, w.before args s = true) (hr : meth.sig.returnType = none) (hlocks : meth.locks = false) (hK : va_K (dC, dI) vwCl [(cI, .int)] s) (m0 m1 m2 m3 m4 m5 : Nat) (mlim : Int32) (mkpt : Int32) (msyn : Int32) (mcn : Int32) (mch : Nat → Int32) (mkd_o : Nat → Int32) (msz_o : Nat → Int32) (mct_o : Nat → Int32) (men_o : Nat → Int32) : ∀ (n : Nat), ∀ (x1 : Int32) (x2 : Int32) (x3 : Int32) (mkd : Nat → Int32) (msz : Nat → Int32) (mct : Nat → Int32) (men : Nat → Int32) (H : Heap) (locs : List Loc), va_P (dC, dI) vwCl (wX3 cI m0 m1 m2 m3 m4 m5 mlim mkpt msyn mcn mkd msz mct men mch) H → va_D (inA [m0, m1, m2, m3, m4, m5]) (wX3 cI m0 m1 m2 m3 m4 m5 mlim mkpt msyn mcn mkd msz mct men mch) → va_S (inA [m0, m1, m2, m3, m4, m5]) s.heap H locs → ∀ (ls : Array Slot), lv_has ls 4 [(0, .ref m0), (1, .int x1), (2, .int x2), (3, .int x3)] → fX3_copy_b60 n x1 x2 x3 mkd msz mct men = some (mkd_o, msz_o, mct_o, men_o) → W p l e ({ frames := 0, cells := 0, slots := 0, locals := 0 } : Room) s m args below meth c H locs 0 0 (MQ below (qV (va_P (dC, dI) vwCl (wX3 cI m0 m1 m2 m3 m4 m5 mlim mkpt msyn mcn mkd_o msz_o mct_o men_o mch)) (inA [m0, m1, m2, m3, m4, m5])) args s 0 0 (inA [m0, m1, m2, m3, m4, m5])) (F0 m 60 ls []) := by
  intro n
  induction n with
  | zero =>
    intro x1 x2 x3 mkd msz mct men H locs hP hD hS ls hl hf
    cases hf
  | succ n ih =>
    intro x1 x2 x3 mkd msz mct men H locs hP hD hS ls hl hf
    rw [fX3_copy_b60] at hf
    refine lv_iload_n hx hb dX3_copy_60 rfl (lv_at hl 3 rfl) ?_
    refine lv_sipush (v := 128) hx hb dX3_copy_61 (by decide) ?_
    refine lv_icmp_ge (tgt := 97) hx hb dX3_copy_64 (by decide) (fun c64 => ?_) (fun c64 => ?_)
    · have hf := it_t c64 hf
      refine lv_iconst (v := 0) hx hb dX3_copy_97 (by decide) ?_
      refine lv_istore_n (lv' := [(3, .int 0), (0, .ref m0), (1, .int x1), (2, .int x2)]) hx hb dX3_copy_98 rfl hl (by decide) rfl (fun ls hl => ?_)
      exact wbX3_copy_99 hx hb hml hown hts hr hlocks hK m0 m1 m2 m3 m4 m5 mlim mkpt msyn mcn mch mkd_o msz_o mct_o men_o 2000 x1 x2 0 mkd msz mct men _ _ hP hD hS _ (lv_sub hl [1, 2, 3, 0] rfl) hf
    · have hf := it_f c64 hf
      refine lv_aload_n hx hb dX3_copy_67 rfl (lv_at hl 0 rfl) ?_
      refine va_get (D := (dC, dI)) (ci := 3) (v := .ref m3) (C := RX3) (T := TX3) (N := 9) hx hb hts (fun w h => mc (inX3 w h)) hown hK hP 0 rfl rfl 3 (by decide) (hts _ (mc q_245)) (fun _ h9 => h9) rfl dX3_copy_68 ?_
      refine lv_sipush (v := 128) hx hb dX3_copy_71 (by decide) ?_
      refine lv_iload_n hx hb dX3_copy_74 rfl (lv_at hl 2 rfl) ?_
      obtain ⟨v75, ev75, hf⟩ := slet_e hf
      refine lv_imul hx hb dX3_copy_75 ?_
      refine rw_nm ev75 ?_
      refine lv_iload_n hx hb dX3_copy_76 rfl (lv_at hl 3 rfl) ?_
      obtain ⟨v77, ev77, hf⟩ := slet_e hf
      refine lv_iadd hx hb dX3_copy_77 ?_
      refine rw_nm ev77 ?_
      refine lv_aload_n hx hb dX3_copy_78 rfl (lv_at hl 0 rfl) ?_
      refine va_get (D := (dC, dI)) (ci := 3) (v := .ref m3) (C := RX3) (T := TX3) (N := 9) hx hb hts (fun w h => mc (inX3 w h)) hown hK hP 0 rfl rfl 3 (by decide) (hts _ (mc q_245)) (fun _ h9 => h9) rfl dX3_copy_79 ?_
      refine lv_sipush (v := 128) hx hb dX3_copy_82 (by decide) ?_
      refine lv_iload_n hx hb dX3_copy_85 rfl (lv_at hl 1 rfl) ?_
      obtain ⟨v86, ev86, hf⟩ := slet_e hf
      refine lv_imul hx hb dX3_copy_86 ?_
      refine rw_nm ev86 ?_
      refine lv_iload_n hx hb dX3_copy_87 rfl (lv_at hl 3 rfl) ?_
      obtain ⟨v88, ev88, hf⟩ := slet_e hf
      refine lv_iadd hx hb dX3_copy_88 ?_
      refine rw_nm ev88 ?_
      obtain ⟨hiv89, v89, ev89, hf⟩ := ard_e hf
      refine rw_ald hx hb hK hP 3 0 rfl rfl hiv89 ev89 dX3_copy_89 ?_
      obtain ⟨himct_90, mct_90, emct_90, hf⟩ := awr_e hf
      refine rw_ast (ws' := (wX3 cI m0 m1 m2 m3 m4 m5 mlim mkpt msyn mcn mkd msz mct_90 men mch)) hx hb hK hP hD hS 3 0 rfl rfl himct_90 emct_90 rfl dX3_copy_90 (fun H locs hP hD hS => ?_)
      obtain ⟨v91, ev91, hf⟩ := slet_e hf
      refine lv_iinc (v := v91) (lv' := [(3, .int v91), (0, .ref m0), (1, .int x1), (2, .int x2)]) hx hb dX3_copy_91 hl (k := 3) rfl (by rw [ev91]; rfl) (by decide) rfl (fun ls hl => ?_)
      refine lv_goto (tgt := 60) hx hb dX3_copy_94 (by decide) ?_
      exact ih x1 x2 v91 mkd msz mct_90 men _ _ hP hD hS _ (lv_sub hl [1, 2, 3, 0] rfl) hf
set_option maxHeartbeats 4000000 in
set_option maxRecDepth 100000 in
theorem wbX3_copy_2 {p : Program} {l : Launch} {e : Env} {s : State} {m : MethodId} {args : Array Value} {below : List Frame} {meth : Method} {c : Code} {dC : Nat → ClassId} {dI : Nat → Nat → Nat} {cI : ClassId} (hx : p.tables.exec = Jvm.exec) (hb : c.code = cX3_copy) (hml : c.maxLocals = 4) (hown : s.vm.findClass RX3 = some m.cls) (hts : ∀ w ∈ wsX3_copy, w.before args s = true) (hr : meth.sig.returnType = none) (hlocks : meth.locks = false) (hK : va_K (dC, dI) vwCl [(cI, .int)] s) (m0 m1 m2 m3 m4 m5 : Nat) (mlim : Int32) (mkpt : Int32) (msyn : Int32) (mcn : Int32) (mch : Nat → Int32) (mkd_o : Nat → Int32) (msz_o : Nat → Int32) (mct_o : Nat → Int32) (men_o : Nat → Int32) : ∀ (n : Nat), ∀ (x1 : Int32) (x2 : Int32) (x3 : Int32) (mkd : Nat → Int32) (msz : Nat → Int32) (mct : Nat → Int32) (men : Nat → Int32) (H : Heap) (locs : List Loc), va_P (dC, dI) vwCl (wX3 cI m0 m1 m2 m3 m4 m5 mlim mkpt msyn mcn mkd msz mct men mch) H → va_D (inA [m0, m1, m2, m3, m4, m5]) (wX3 cI m0 m1 m2 m3 m4 m5 mlim mkpt msyn mcn mkd msz mct men mch) → va_S (inA [m0, m1, m2, m3, m4, m5]) s.heap H locs → ∀ (ls : Array Slot), lv_has ls 4 [(0, .ref m0), (1, .int x1), (2, .int x2), (3, .int x3)] → fX3_copy_b2 n x1 x2 x3 mkd msz mct men = some (mkd_o, msz_o, mct_o, men_o) → W p l e ({ frames := 0, cells := 0, slots := 0, locals := 0 } : Room) s m args below meth c H locs 0 0 (MQ below (qV (va_P (dC, dI) vwCl (wX3 cI m0 m1 m2 m3 m4 m5 mlim mkpt msyn mcn mkd_o msz_o mct_o men_o mch)) (inA [m0, m1, m2, m3, m4, m5])) args s 0 0 (inA [m0, m1, m2, m3, m4, m5])) (F0 m 2 ls []) := by
  intro n
  induction n with
  | zero =>
    intro x1 x2 x3 mkd msz mct men H locs hP hD hS ls hl hf
    cases hf
  | succ n ih =>
    intro x1 x2 x3 mkd msz mct men H locs hP hD hS ls hl hf
    rw [fX3_copy_b2] at hf
    refine lv_iload_n hx hb dX3_copy_2 rfl (lv_at hl 3 rfl) ?_
    refine lv_bipush (v := 16) hx hb dX3_copy_3 (by decide) ?_
    refine lv_icmp_ge (tgt := 58) hx hb dX3_copy_5 (by decide) (fun c5 => ?_) (fun c5 => ?_)
    · have hf := it_t c5 hf
      refine lv_iconst (v := 0) hx hb dX3_copy_58 (by decide) ?_
      refine lv_istore_n (lv' := [(3, .int 0), (0, .ref m0), (1, .int x1), (2, .int x2)]) hx hb dX3_copy_59 rfl hl (by decide) rfl (fun ls hl => ?_)
      exact wbX3_copy_60 hx hb hml hown hts hr hlocks hK m0 m1 m2 m3 m4 m5 mlim mkpt msyn mcn mch mkd_o msz_o mct_o men_o 2000 x1 x2 0 mkd msz mct men _ _ hP hD hS _ (lv_sub hl [1, 2, 3, 0] rfl) hf
    · have hf := it_f c5 hf
      refine lv_aload_n hx hb dX3_copy_8 rfl (lv_at hl 0 rfl) ?_
      refine va_get (D := (dC, dI)) (ci := 3) (v := .ref m1) (C := RX3) (T := TX3) (N := 9) hx hb hts (fun w h => mc (inX3 w h)) hown hK hP 0 rfl rfl 1 (by decide) (hts _ (mc q_243)) (fun _ h9 => h9) rfl dX3_copy_9 ?_
      refine lv_bipush (v := 16) hx hb dX3_copy_12 (by decide) ?_
      refine lv_iload_n hx hb dX3_copy_14 rfl (lv_at hl 2 rfl) ?_
      obtain ⟨v15, ev15, hf⟩ := slet_e hf
      refine lv_imul hx hb dX3_copy_15 ?_
      refine rw_nm ev15 ?_
      refine lv_iload_n hx hb dX3_copy_16 rfl (lv_at hl 3 rfl) ?_
      obtain ⟨v17, ev17, hf⟩ := slet_e hf
      refine lv_iadd hx hb dX3_copy_17 ?_
      refine rw_nm ev17 ?_
      refine lv_aload_n hx hb dX3_copy_18 rfl (lv_at hl 0 rfl) ?_
      refine va_get (D := (dC, dI)) (ci := 3) (v := .ref m1) (C := RX3) (T := TX3) (N := 9) hx hb hts (fun w h => mc (inX3 w h)) hown hK hP 0 rfl rfl 1 (by decide) (hts _ (mc q_243)) (fun _ h9 => h9) rfl dX3_copy_19 ?_
      refine lv_bipush (v := 16) hx hb dX3_copy_22 (by decide) ?_
      refine lv_iload_n hx hb dX3_copy_24 rfl (lv_at hl 1 rfl) ?_
      obtain ⟨v25, ev25, hf⟩ := slet_e hf
      refine lv_imul hx hb dX3_copy_25 ?_
      refine rw_nm ev25 ?_
      refine lv_iload_n hx hb dX3_copy_26 rfl (lv_at hl 3 rfl) ?_
      obtain ⟨v27, ev27, hf⟩ := slet_e hf
      refine lv_iadd hx hb dX3_copy_27 ?_
      refine rw_nm ev27 ?_
      obtain ⟨hiv28, v28, ev28, hf⟩ := ard_e hf
      refine rw_ald hx hb hK hP 1 0 rfl rfl hiv28 ev28 dX3_copy_28 ?_
      obtain ⟨himkd_29, mkd_29, emkd_29, hf⟩ := awr_e hf
      refine rw_ast (ws' := (wX3 cI m0 m1 m2 m3 m4 m5 mlim mkpt msyn mcn mkd_29 msz mct men mch)) hx hb hK hP hD hS 1 0 rfl rfl himkd_29 emkd_29 rfl dX3_copy_29 (fun H locs hP hD hS => ?_)
      refine lv_aload_n hx hb dX3_copy_30 rfl (lv_at hl 0 rfl) ?_
      refine va_get (D := (dC, dI)) (ci := 3) (v := .ref m2) (C := RX3) (T := TX3) (N := 9) hx hb hts (fun w h => mc (inX3 w h)) hown hK hP 0 rfl rfl 2 (by decide) (hts _ (mc q_244)) (fun _ h9 => h9) rfl dX3_copy_31 ?_
      refine lv_bipush (v := 16) hx hb dX3_copy_34 (by decide) ?_
      refine lv_iload_n hx hb dX3_copy_36 rfl (lv_at hl 2 rfl) ?_
      obtain ⟨v37, ev37, hf⟩ := slet_e hf
      refine lv_imul hx hb dX3_copy_37 ?_
      refine rw_nm ev37 ?_
      refine lv_iload_n hx hb dX3_copy_38 rfl (lv_at hl 3 rfl) ?_
      obtain ⟨v39, ev39, hf⟩ := slet_e hf
      refine lv_iadd hx hb dX3_copy_39 ?_
      refine rw_nm ev39 ?_
      refine lv_aload_n hx hb dX3_copy_40 rfl (lv_at hl 0 rfl) ?_
      refine va_get (D := (dC, dI)) (ci := 3) (v := .ref m2) (C := RX3) (T := TX3) (N := 9) hx hb hts (fun w h => mc (inX3 w h)) hown hK hP 0 rfl rfl 2 (by decide) (hts _ (mc q_244)) (fun _ h9 => h9) rfl dX3_copy_41 ?_
      refine lv_bipush (v := 16) hx hb dX3_copy_44 (by decide) ?_
      refine lv_iload_n hx hb dX3_copy_46 rfl (lv_at hl 1 rfl) ?_
      obtain ⟨v47, ev47, hf⟩ := slet_e hf
      refine lv_imul hx hb dX3_copy_47 ?_
      refine rw_nm ev47 ?_
      refine lv_iload_n hx hb dX3_copy_48 rfl (lv_at hl 3 rfl) ?_
      obtain ⟨v49, ev49, hf⟩ := slet_e hf
      refine lv_iadd hx hb dX3_copy_49 ?_
      refine rw_nm ev49 ?_
      obtain ⟨hiv50, v50, ev50, hf⟩ := ard_e hf
      refine rw_ald hx hb hK hP 2 0 rfl rfl hiv50 ev50 dX3_copy_50 ?_
      obtain ⟨himsz_51, msz_51, emsz_51, hf⟩ := awr_e hf
      refine rw_ast (ws' := (wX3 cI m0 m1 m2 m3 m4 m5 mlim mkpt msyn mcn mkd_29 msz_51 mct men mch)) hx hb hK hP hD hS 2 0 rfl rfl himsz_51 emsz_51 rfl dX3_copy_51 (fun H locs hP hD hS => ?_)
      obtain ⟨v52, ev52, hf⟩ := slet_e hf
      refine lv_iinc (v := v52) (lv' := [(3, .int v52), (0, .ref m0), (1, .int x1), (2, .int x2)]) hx hb dX3_copy_52 hl (k := 3) rfl (by rw [ev52]; rfl) (by decide) rfl (fun ls hl => ?_)
      refine lv_goto (tgt := 2) hx hb dX3_copy_55 (by decide) ?_
      exact ih x1 x2 v52 mkd_29 msz_51 mct men _ _ hP hD hS _ (lv_sub hl [1, 2, 3, 0] rfl) hf
set_option maxHeartbeats 4000000 in
set_option maxRecDepth 100000 in
theorem cX3_copy_met (l : Launch) (dC : Nat → ClassId) (dI : Nat → Nat → Nat) (cI : ClassId) (m0 m1 m2 m3 m4 m5 : Nat) (mlim : Int32) (mkpt : Int32) (msyn : Int32) (mcn : Int32) (mkd : Nat → Int32) (msz : Nat → Int32) (mct : Nat → Int32) (men : Nat → Int32) (mch : Nat → Int32) (x1 : Int32) (x2 : Int32) (mkd_o : Nat → Int32) (msz_o : Nat → Int32) (mct_o : Nat → Int32) (men_o : Nat → Int32) (hf : fX3_copy x1 x2 mkd msz mct men = some (mkd_o, msz_o, mct_o, men_o)) : Met l yX3_copy wsX3_copy ({ frames := 0, cells := 0, slots := 0, locals := 0 } : Room) (pcW [.ref m0, .int x1, .int x2] (dC, dI) vwCl [(cI, .int)] (wX3 cI m0 m1 m2 m3 m4 m5 mlim mkpt msyn mcn mkd msz mct men mch)) (qV (va_P (dC, dI) vwCl (wX3 cI m0 m1 m2 m3 m4 m5 mlim mkpt msyn mcn mkd_o msz_o mct_o men_o mch)) (inA [m0, m1, m2, m3, m4, m5])) 0 0 (inA [m0, m1, m2, m3, m4, m5]) := by
  refine Met.ofW (cc := cX3_copy) (maxL := 4) (ret := none) (by decide) rfl ?_
  intro p e s m args below meth c s₁ B hml hv
  obtain ⟨rfl, hP, hK, hD0⟩ := hv
  have hx := B.exec
  have hb := B.bytes
  have hr := B.returns
  have hts := atoms_spec (ws := wsX3_copy) B.pre
  have hown : s.vm.findClass RX3 = some m.cls := findClass_of_methodNamed B.named
  have hlocks := B.notSynchronized
  have hD := my_self (as := [m0, m1, m2, m3, m4, m5]) hD0 rfl
  have hS : va_S (inA [m0, m1, m2, m3, m4, m5]) s.heap s.heap [] := va_S.rf
  have hl := lv_entry ([.ref m0, .int x1, .int x2]) (n := 4) (Nat.le_of_ble_eq_true rfl)
  rw [lg_entry_eq]
  generalize (lg_sl ([.ref m0, .int x1, .int x2]) ++ List.replicate (4 - (lg_sl ([.ref m0, .int x1, .int x2])).length) Slot.unset).toArray = ls at hl ⊢
  have hl : lv_has ls 4 [(0, .ref m0), (1, .int x1), (2, .int x2)] := hl
  unfold fX3_copy at hf
  refine lv_iconst (v := 0) hx hb dX3_copy_0 (by decide) ?_
  refine lv_istore_n (lv' := [(3, .int 0), (0, .ref m0), (1, .int x1), (2, .int x2)]) hx hb dX3_copy_1 rfl hl (by decide) rfl (fun ls hl => ?_)
  exact wbX3_copy_2 hx hb hml hown hts hr hlocks hK m0 m1 m2 m3 m4 m5 mlim mkpt msyn mcn mch mkd_o msz_o mct_o men_o 2000 x1 x2 0 mkd msz mct men _ _ hP hD hS _ (lv_sub hl [1, 2, 3, 0] rfl) hf
set_option maxHeartbeats 4000000 in
set_option maxRecDepth 100000 in
theorem cX3_out_met (l : Launch) (dC : Nat → ClassId) (dI : Nat → Nat → Nat) (cI : ClassId) (x0 : Int32) (x1 : Int32) (r : Int32) (hf : fX3_out x0 x1 = some r) : Met l yX3_out wsX3_out ({ frames := 0, cells := 0, slots := 0, locals := 0 } : Room) (pcR [.int x0, .int x1] (dC, dI) vwCl [(cI, .int)] []) (qI r pT aN) 0 0 aN := by
  refine Met.ofW (cc := cX3_out) (maxL := 2) (ret := (some .boolean)) (by decide) rfl ?_
  intro p e s m args below meth c s₁ B hml hv
  obtain ⟨rfl, hP, hK⟩ := hv
  have hx := B.exec
  have hb := B.bytes
  have hr := B.returns
  have hts := atoms_spec (ws := wsX3_out) B.pre
  have hown : s.vm.findClass RX3 = some m.cls := findClass_of_methodNamed B.named
  have hlocks := B.notSynchronized
  have hS : va_S aN s.heap s.heap [] := va_S.rf
  have hl := lv_entry ([.int x0, .int x1]) (n := 2) (Nat.le_of_ble_eq_true rfl)
  rw [lg_entry_eq]
  generalize (lg_sl ([.int x0, .int x1]) ++ List.replicate (2 - (lg_sl ([.int x0, .int x1])).length) Slot.unset).toArray = ls at hl ⊢
  have hl : lv_has ls 2 [(0, .int x0), (1, .int x1)] := hl
  unfold fX3_out at hf
  refine lv_iload_n hx hb dX3_out_0 rfl (lv_at hl 0 rfl) ?_
  refine lv_if_lt (tgt := 9) hx hb dX3_out_1 (by decide) (fun c1 => ?_) (fun c1 => ?_)
  · have hf := it_t c1 hf
    refine lv_iconst (v := 1) hx hb dX3_out_9 (by decide) ?_
    refine lv_goto (tgt := 14) hx hb dX3_out_10 (by decide) ?_
    cases hf
    exact retZ hx hb hr hlocks (by decide) trivial hS dX3_out_14
  · have hf := it_f c1 hf
    refine lv_iload_n hx hb dX3_out_4 rfl (lv_at hl 0 rfl) ?_
    refine lv_iload_n hx hb dX3_out_5 rfl (lv_at hl 1 rfl) ?_
    refine lv_icmp_lt (tgt := 13) hx hb dX3_out_6 (by decide) (fun c6 => ?_) (fun c6 => ?_)
    · have hf := it_t c6 hf
      refine lv_iconst (v := 0) hx hb dX3_out_13 (by decide) ?_
      cases hf
      exact retZ hx hb hr hlocks (by decide) trivial hS dX3_out_14
    · have hf := it_f c6 hf
      refine lv_iconst (v := 1) hx hb dX3_out_9 (by decide) ?_
      refine lv_goto (tgt := 14) hx hb dX3_out_10 (by decide) ?_
      cases hf
      exact retZ hx hb hr hlocks (by decide) trivial hS dX3_out_14
set_option maxHeartbeats 4000000 in
set_option maxRecDepth 100000 in
theorem wbX3_live_4 {p : Program} {l : Launch} {e : Env} {s : State} {m : MethodId} {args : Array Value} {below : List Frame} {meth : Method} {c : Code} {dC : Nat → ClassId} {dI : Nat → Nat → Nat} {cI : ClassId} (hx : p.tables.exec = Jvm.exec) (hb : c.code = cX3_live) (hml : c.maxLocals = 3) (hown : s.vm.findClass RX3 = some m.cls) (hts : ∀ w ∈ wsX3_live, w.before args s = true) (hr : meth.sig.returnType = (some .int)) (hlocks : meth.locks = false) (hK : va_K (dC, dI) vwCl [(cI, .int)] s) (m0 m1 m2 m3 m4 m5 : Nat) (mlim : Int32) (mkpt : Int32) (msyn : Int32) (mcn : Int32) (mkd : Nat → Int32) (msz : Nat → Int32) (mct : Nat → Int32) (men : Nat → Int32) (mch : Nat → Int32) (r : Int32) : ∀ (n : Nat), ∀ (x1 : Int32) (x2 : Int32) (H : Heap) (locs : List Loc), va_P (dC, dI) vwCl (wX3 cI m0 m1 m2 m3 m4 m5 mlim mkpt msyn mcn mkd msz mct men mch) H → va_S aN s.heap H locs → ∀ (ls : Array Slot), lv_has ls 3 [(0, .ref m0), (1, .int x1), (2, .int x2)] → fX3_live_b4 mkd msz n x1 x2 = some r → W p l e ({ frames := 0, cells := 0, slots := 0, locals := 0 } : Room) s m args below meth c H locs 0 0 (MQ below (qI r pT aN) args s 0 0 aN) (F0 m 4 ls []) := by
  intro n
  induction n with
  | zero =>
    intro x1 x2 H locs hP hS ls hl hf
    cases hf
  | succ n ih =>
    intro x1 x2 H locs hP hS ls hl hf
    rw [fX3_live_b4] at hf
    refine lv_iload_n hx hb dX3_live_4 rfl (lv_at hl 2 rfl) ?_
    refine lv_bipush (v := 16) hx hb dX3_live_5 (by decide) ?_
    refine lv_icmp_ge (tgt := 50) hx hb dX3_live_7 (by decide) (fun c7 => ?_) (fun c7 => ?_)
    · have hf := it_t c7 hf
      refine lv_iload_n hx hb dX3_live_50 rfl (lv_at hl 1 rfl) ?_
      cases hf
      exact retI hx hb hr hlocks trivial hS dX3_live_51
    · have hf := it_f c7 hf
      refine lv_aload_n hx hb dX3_live_10 rfl (lv_at hl 0 rfl) ?_
      refine va_get (D := (dC, dI)) (ci := 3) (v := .ref m1) (C := RX3) (T := TX3) (N := 9) hx hb hts (fun w h => mc (inX3 w h)) hown hK hP 0 rfl rfl 1 (by decide) (hts _ (mc q_243)) (fun _ h9 => h9) rfl dX3_live_11 ?_
      refine lv_iload_n hx hb dX3_live_14 rfl (lv_at hl 2 rfl) ?_
      obtain ⟨hiv15, v15, ev15, hf⟩ := ard_e hf
      refine rw_ald hx hb hK hP 1 0 rfl rfl hiv15 ev15 dX3_live_15 ?_
      refine lv_if_eq (tgt := 44) hx hb dX3_live_16 (by decide) (fun c16 => ?_) (fun c16 => ?_)
      · have hf := it_t c16 hf
        obtain ⟨v44, ev44, hf⟩ := slet_e hf
        refine lv_iinc (v := v44) (lv' := [(2, .int v44), (0, .ref m0), (1, .int x1)]) hx hb dX3_live_44 hl (k := 2) rfl (by rw [ev44]; rfl) (by decide) rfl (fun ls hl => ?_)
        refine lv_goto (tgt := 4) hx hb dX3_live_47 (by decide) ?_
        exact ih x1 v44 _ _ hP hS _ (lv_sub hl [1, 2, 0] rfl) hf
      · have hf := it_f c16 hf
        refine lv_iload_n hx hb dX3_live_19 rfl (lv_at hl 1 rfl) ?_
        refine lv_iconst (v := 1) hx hb dX3_live_20 (by decide) ?_
        refine lv_aload_n hx hb dX3_live_21 rfl (lv_at hl 0 rfl) ?_
        refine va_get (D := (dC, dI)) (ci := 3) (v := .ref m1) (C := RX3) (T := TX3) (N := 9) hx hb hts (fun w h => mc (inX3 w h)) hown hK hP 0 rfl rfl 1 (by decide) (hts _ (mc q_243)) (fun _ h9 => h9) rfl dX3_live_22 ?_
        refine lv_iload_n hx hb dX3_live_25 rfl (lv_at hl 2 rfl) ?_
        obtain ⟨hiv26, v26, ev26, hf⟩ := ard_e hf
        refine rw_ald hx hb hK hP 1 0 rfl rfl hiv26 ev26 dX3_live_26 ?_
        refine lv_iconst (v := 1) hx hb dX3_live_27 (by decide) ?_
        refine lv_icmp_ne (tgt := 40) hx hb dX3_live_28 (by decide) (fun c28 => ?_) (fun c28 => ?_)
        · have hf := it_f c28 hf
          refine lv_iconst (v := 0) hx hb dX3_live_40 (by decide) ?_
          obtain ⟨v41, ev41, hf⟩ := slet_e hf
          refine lv_iadd hx hb dX3_live_41 ?_
          refine rw_nm ev41 ?_
          obtain ⟨v42, ev42, hf⟩ := slet_e hf
          refine lv_iadd hx hb dX3_live_42 ?_
          refine rw_nm ev42 ?_
          refine lv_istore_n (lv' := [(1, .int v42), (0, .ref m0), (2, .int x2)]) hx hb dX3_live_43 rfl hl (by decide) rfl (fun ls hl => ?_)
          obtain ⟨v44, ev44, hf⟩ := slet_e hf
          refine lv_iinc (v := v44) (lv' := [(2, .int v44), (1, .int v42), (0, .ref m0)]) hx hb dX3_live_44 hl (k := 2) rfl (by rw [ev44]; rfl) (by decide) rfl (fun ls hl => ?_)
          refine lv_goto (tgt := 4) hx hb dX3_live_47 (by decide) ?_
          exact ih v42 v44 _ _ hP hS _ (lv_sub hl [2, 1, 0] rfl) hf
        · have hf := it_t c28 hf
          refine lv_aload_n hx hb dX3_live_31 rfl (lv_at hl 0 rfl) ?_
          refine va_get (D := (dC, dI)) (ci := 3) (v := .ref m2) (C := RX3) (T := TX3) (N := 9) hx hb hts (fun w h => mc (inX3 w h)) hown hK hP 0 rfl rfl 2 (by decide) (hts _ (mc q_244)) (fun _ h9 => h9) rfl dX3_live_32 ?_
          refine lv_iload_n hx hb dX3_live_35 rfl (lv_at hl 2 rfl) ?_
          obtain ⟨hiv36, v36, ev36, hf⟩ := ard_e hf
          refine rw_ald hx hb hK hP 2 0 rfl rfl hiv36 ev36 dX3_live_36 ?_
          refine lv_goto (tgt := 41) hx hb dX3_live_37 (by decide) ?_
          obtain ⟨v41, ev41, hf⟩ := slet_e hf
          refine lv_iadd hx hb dX3_live_41 ?_
          refine rw_nm ev41 ?_
          obtain ⟨v42, ev42, hf⟩ := slet_e hf
          refine lv_iadd hx hb dX3_live_42 ?_
          refine rw_nm ev42 ?_
          refine lv_istore_n (lv' := [(1, .int v42), (0, .ref m0), (2, .int x2)]) hx hb dX3_live_43 rfl hl (by decide) rfl (fun ls hl => ?_)
          obtain ⟨v44, ev44, hf⟩ := slet_e hf
          refine lv_iinc (v := v44) (lv' := [(2, .int v44), (1, .int v42), (0, .ref m0)]) hx hb dX3_live_44 hl (k := 2) rfl (by rw [ev44]; rfl) (by decide) rfl (fun ls hl => ?_)
          refine lv_goto (tgt := 4) hx hb dX3_live_47 (by decide) ?_
          exact ih v42 v44 _ _ hP hS _ (lv_sub hl [2, 1, 0] rfl) hf
set_option maxHeartbeats 4000000 in
set_option maxRecDepth 100000 in
theorem cX3_live_met (l : Launch) (dC : Nat → ClassId) (dI : Nat → Nat → Nat) (cI : ClassId) (m0 m1 m2 m3 m4 m5 : Nat) (mlim : Int32) (mkpt : Int32) (msyn : Int32) (mcn : Int32) (mkd : Nat → Int32) (msz : Nat → Int32) (mct : Nat → Int32) (men : Nat → Int32) (mch : Nat → Int32) (r : Int32) (hf : fX3_live mkd msz = some r) : Met l yX3_live wsX3_live ({ frames := 0, cells := 0, slots := 0, locals := 0 } : Room) (pcR [.ref m0] (dC, dI) vwCl [(cI, .int)] (wX3 cI m0 m1 m2 m3 m4 m5 mlim mkpt msyn mcn mkd msz mct men mch)) (qI r pT aN) 0 0 aN := by
  refine Met.ofW (cc := cX3_live) (maxL := 3) (ret := (some .int)) (by decide) rfl ?_
  intro p e s m args below meth c s₁ B hml hv
  obtain ⟨rfl, hP, hK⟩ := hv
  have hx := B.exec
  have hb := B.bytes
  have hr := B.returns
  have hts := atoms_spec (ws := wsX3_live) B.pre
  have hown : s.vm.findClass RX3 = some m.cls := findClass_of_methodNamed B.named
  have hlocks := B.notSynchronized
  have hS : va_S aN s.heap s.heap [] := va_S.rf
  have hl := lv_entry ([.ref m0]) (n := 3) (Nat.le_of_ble_eq_true rfl)
  rw [lg_entry_eq]
  generalize (lg_sl ([.ref m0]) ++ List.replicate (3 - (lg_sl ([.ref m0])).length) Slot.unset).toArray = ls at hl ⊢
  have hl : lv_has ls 3 [(0, .ref m0)] := hl
  unfold fX3_live at hf
  refine lv_iconst (v := 0) hx hb dX3_live_0 (by decide) ?_
  refine lv_istore_n (lv' := [(1, .int 0), (0, .ref m0)]) hx hb dX3_live_1 rfl hl (by decide) rfl (fun ls hl => ?_)
  refine lv_iconst (v := 0) hx hb dX3_live_2 (by decide) ?_
  refine lv_istore_n (lv' := [(2, .int 0), (1, .int 0), (0, .ref m0)]) hx hb dX3_live_3 rfl hl (by decide) rfl (fun ls hl => ?_)
  exact wbX3_live_4 hx hb hml hown hts hr hlocks hK m0 m1 m2 m3 m4 m5 mlim mkpt msyn mcn mkd msz mct men mch r 2000 0 0 _ _ hP hS _ (lv_sub hl [2, 1, 0] rfl) hf
set_option maxHeartbeats 4000000 in
set_option maxRecDepth 100000 in
theorem wbX3_nodes_4 {p : Program} {l : Launch} {e : Env} {s : State} {m : MethodId} {args : Array Value} {below : List Frame} {meth : Method} {c : Code} {dC : Nat → ClassId} {dI : Nat → Nat → Nat} {cI : ClassId} (hx : p.tables.exec = Jvm.exec) (hb : c.code = cX3_nodes) (hml : c.maxLocals = 3) (hown : s.vm.findClass RX3 = some m.cls) (hts : ∀ w ∈ wsX3_nodes, w.before args s = true) (hr : meth.sig.returnType = (some .int)) (hlocks : meth.locks = false) (hK : va_K (dC, dI) vwCl [(cI, .int)] s) (m0 m1 m2 m3 m4 m5 : Nat) (mlim : Int32) (mkpt : Int32) (msyn : Int32) (mcn : Int32) (mkd : Nat → Int32) (msz : Nat → Int32) (mct : Nat → Int32) (men : Nat → Int32) (mch : Nat → Int32) (r : Int32) : ∀ (n : Nat), ∀ (x1 : Int32) (x2 : Int32) (H : Heap) (locs : List Loc), va_P (dC, dI) vwCl (wX3 cI m0 m1 m2 m3 m4 m5 mlim mkpt msyn mcn mkd msz mct men mch) H → va_S aN s.heap H locs → ∀ (ls : Array Slot), lv_has ls 3 [(0, .ref m0), (1, .int x1), (2, .int x2)] → fX3_nodes_b4 mkd n x1 x2 = some r → W p l e ({ frames := 0, cells := 0, slots := 0, locals := 0 } : Room) s m args below meth c H locs 0 0 (MQ below (qI r pT aN) args s 0 0 aN) (F0 m 4 ls []) := by
  intro n
  induction n with
  | zero =>
    intro x1 x2 H locs hP hS ls hl hf
    cases hf
  | succ n ih =>
    intro x1 x2 H locs hP hS ls hl hf
    rw [fX3_nodes_b4] at hf
    refine lv_iload_n hx hb dX3_nodes_4 rfl (lv_at hl 2 rfl) ?_
    refine lv_bipush (v := 16) hx hb dX3_nodes_5 (by decide) ?_
    refine lv_icmp_ge (tgt := 28) hx hb dX3_nodes_7 (by decide) (fun c7 => ?_) (fun c7 => ?_)
    · have hf := it_t c7 hf
      refine lv_iload_n hx hb dX3_nodes_28 rfl (lv_at hl 1 rfl) ?_
      cases hf
      exact retI hx hb hr hlocks trivial hS dX3_nodes_29
    · have hf := it_f c7 hf
      refine lv_aload_n hx hb dX3_nodes_10 rfl (lv_at hl 0 rfl) ?_
      refine va_get (D := (dC, dI)) (ci := 3) (v := .ref m1) (C := RX3) (T := TX3) (N := 9) hx hb hts (fun w h => mc (inX3 w h)) hown hK hP 0 rfl rfl 1 (by decide) (hts _ (mc q_243)) (fun _ h9 => h9) rfl dX3_nodes_11 ?_
      refine lv_iload_n hx hb dX3_nodes_14 rfl (lv_at hl 2 rfl) ?_
      obtain ⟨hiv15, v15, ev15, hf⟩ := ard_e hf
      refine rw_ald hx hb hK hP 1 0 rfl rfl hiv15 ev15 dX3_nodes_15 ?_
      refine lv_if_eq (tgt := 22) hx hb dX3_nodes_16 (by decide) (fun c16 => ?_) (fun c16 => ?_)
      · have hf := it_t c16 hf
        obtain ⟨v22, ev22, hf⟩ := slet_e hf
        refine lv_iinc (v := v22) (lv' := [(2, .int v22), (0, .ref m0), (1, .int x1)]) hx hb dX3_nodes_22 hl (k := 2) rfl (by rw [ev22]; rfl) (by decide) rfl (fun ls hl => ?_)
        refine lv_goto (tgt := 4) hx hb dX3_nodes_25 (by decide) ?_
        exact ih x1 v22 _ _ hP hS _ (lv_sub hl [1, 2, 0] rfl) hf
      · have hf := it_f c16 hf
        obtain ⟨v19, ev19, hf⟩ := slet_e hf
        refine lv_iinc (v := v19) (lv' := [(1, .int v19), (0, .ref m0), (2, .int x2)]) hx hb dX3_nodes_19 hl (k := 1) rfl (by rw [ev19]; rfl) (by decide) rfl (fun ls hl => ?_)
        obtain ⟨v22, ev22, hf⟩ := slet_e hf
        refine lv_iinc (v := v22) (lv' := [(2, .int v22), (1, .int v19), (0, .ref m0)]) hx hb dX3_nodes_22 hl (k := 2) rfl (by rw [ev22]; rfl) (by decide) rfl (fun ls hl => ?_)
        refine lv_goto (tgt := 4) hx hb dX3_nodes_25 (by decide) ?_
        exact ih v19 v22 _ _ hP hS _ (lv_sub hl [2, 1, 0] rfl) hf
set_option maxHeartbeats 4000000 in
set_option maxRecDepth 100000 in
theorem cX3_nodes_met (l : Launch) (dC : Nat → ClassId) (dI : Nat → Nat → Nat) (cI : ClassId) (m0 m1 m2 m3 m4 m5 : Nat) (mlim : Int32) (mkpt : Int32) (msyn : Int32) (mcn : Int32) (mkd : Nat → Int32) (msz : Nat → Int32) (mct : Nat → Int32) (men : Nat → Int32) (mch : Nat → Int32) (r : Int32) (hf : fX3_nodes mkd = some r) : Met l yX3_nodes wsX3_nodes ({ frames := 0, cells := 0, slots := 0, locals := 0 } : Room) (pcR [.ref m0] (dC, dI) vwCl [(cI, .int)] (wX3 cI m0 m1 m2 m3 m4 m5 mlim mkpt msyn mcn mkd msz mct men mch)) (qI r pT aN) 0 0 aN := by
  refine Met.ofW (cc := cX3_nodes) (maxL := 3) (ret := (some .int)) (by decide) rfl ?_
  intro p e s m args below meth c s₁ B hml hv
  obtain ⟨rfl, hP, hK⟩ := hv
  have hx := B.exec
  have hb := B.bytes
  have hr := B.returns
  have hts := atoms_spec (ws := wsX3_nodes) B.pre
  have hown : s.vm.findClass RX3 = some m.cls := findClass_of_methodNamed B.named
  have hlocks := B.notSynchronized
  have hS : va_S aN s.heap s.heap [] := va_S.rf
  have hl := lv_entry ([.ref m0]) (n := 3) (Nat.le_of_ble_eq_true rfl)
  rw [lg_entry_eq]
  generalize (lg_sl ([.ref m0]) ++ List.replicate (3 - (lg_sl ([.ref m0])).length) Slot.unset).toArray = ls at hl ⊢
  have hl : lv_has ls 3 [(0, .ref m0)] := hl
  unfold fX3_nodes at hf
  refine lv_iconst (v := 0) hx hb dX3_nodes_0 (by decide) ?_
  refine lv_istore_n (lv' := [(1, .int 0), (0, .ref m0)]) hx hb dX3_nodes_1 rfl hl (by decide) rfl (fun ls hl => ?_)
  refine lv_iconst (v := 0) hx hb dX3_nodes_2 (by decide) ?_
  refine lv_istore_n (lv' := [(2, .int 0), (1, .int 0), (0, .ref m0)]) hx hb dX3_nodes_3 rfl hl (by decide) rfl (fun ls hl => ?_)
  exact wbX3_nodes_4 hx hb hml hown hts hr hlocks hK m0 m1 m2 m3 m4 m5 mlim mkpt msyn mcn mkd msz mct men mch r 2000 0 0 _ _ hP hS _ (lv_sub hl [2, 1, 0] rfl) hf
set_option maxHeartbeats 4000000 in
set_option maxRecDepth 100000 in
theorem wbX3_entryCount_4 {p : Program} {l : Launch} {e : Env} {s : State} {m : MethodId} {args : Array Value} {below : List Frame} {meth : Method} {c : Code} {dC : Nat → ClassId} {dI : Nat → Nat → Nat} {cI : ClassId} (hx : p.tables.exec = Jvm.exec) (hb : c.code = cX3_entryCount) (hml : c.maxLocals = 4) (hown : s.vm.findClass RX3 = some m.cls) (hts : ∀ w ∈ wsX3_entryCount, w.before args s = true) (hr : meth.sig.returnType = (some .int)) (hlocks : meth.locks = false) (hK : va_K (dC, dI) vwCl [(cI, .int)] s) (m0 m1 m2 m3 m4 m5 : Nat) (mlim : Int32) (mkpt : Int32) (msyn : Int32) (mcn : Int32) (mkd : Nat → Int32) (msz : Nat → Int32) (mct : Nat → Int32) (men : Nat → Int32) (mch : Nat → Int32) (r : Int32) : ∀ (n : Nat), ∀ (x1 : Int32) (x2 : Int32) (x3 : Int32) (H : Heap) (locs : List Loc), va_P (dC, dI) vwCl (wX3 cI m0 m1 m2 m3 m4 m5 mlim mkpt msyn mcn mkd msz mct men mch) H → va_S aN s.heap H locs → ∀ (ls : Array Slot), lv_has ls 4 [(0, .ref m0), (1, .int x1), (2, .int x2), (3, .int x3)] → fX3_entryCount_b4 men n x1 x2 x3 = some r → W p l e ({ frames := 0, cells := 0, slots := 0, locals := 0 } : Room) s m args below meth c H locs 0 0 (MQ below (qI r pT aN) args s 0 0 aN) (F0 m 4 ls []) := by
  intro n
  induction n with
  | zero =>
    intro x1 x2 x3 H locs hP hS ls hl hf
    cases hf
  | succ n ih =>
    intro x1 x2 x3 H locs hP hS ls hl hf
    rw [fX3_entryCount_b4] at hf
    refine lv_iload_n hx hb dX3_entryCount_4 rfl (lv_at hl 3 rfl) ?_
    refine lv_bipush (v := 32) hx hb dX3_entryCount_5 (by decide) ?_
    refine lv_icmp_ge (tgt := 33) hx hb dX3_entryCount_7 (by decide) (fun c7 => ?_) (fun c7 => ?_)
    · have hf := it_t c7 hf
      refine lv_iload_n hx hb dX3_entryCount_33 rfl (lv_at hl 2 rfl) ?_
      cases hf
      exact retI hx hb hr hlocks trivial hS dX3_entryCount_34
    · have hf := it_f c7 hf
      refine lv_aload_n hx hb dX3_entryCount_10 rfl (lv_at hl 0 rfl) ?_
      refine va_get (D := (dC, dI)) (ci := 3) (v := .ref m4) (C := RX3) (T := TX3) (N := 9) hx hb hts (fun w h => mc (inX3 w h)) hown hK hP 0 rfl rfl 4 (by decide) (hts _ (mc q_246)) (fun _ h9 => h9) rfl dX3_entryCount_11 ?_
      refine lv_bipush (v := 32) hx hb dX3_entryCount_14 (by decide) ?_
      refine lv_iload_n hx hb dX3_entryCount_16 rfl (lv_at hl 1 rfl) ?_
      obtain ⟨v17, ev17, hf⟩ := slet_e hf
      refine lv_imul hx hb dX3_entryCount_17 ?_
      refine rw_nm ev17 ?_
      refine lv_iload_n hx hb dX3_entryCount_18 rfl (lv_at hl 3 rfl) ?_
      obtain ⟨v19, ev19, hf⟩ := slet_e hf
      refine lv_iadd hx hb dX3_entryCount_19 ?_
      refine rw_nm ev19 ?_
      obtain ⟨hiv20, v20, ev20, hf⟩ := ard_e hf
      refine rw_ald hx hb hK hP 4 0 rfl rfl hiv20 ev20 dX3_entryCount_20 ?_
      refine lv_if_lt (tgt := 27) hx hb dX3_entryCount_21 (by decide) (fun c21 => ?_) (fun c21 => ?_)
      · have hf := it_t c21 hf
        obtain ⟨v27, ev27, hf⟩ := slet_e hf
        refine lv_iinc (v := v27) (lv' := [(3, .int v27), (0, .ref m0), (1, .int x1), (2, .int x2)]) hx hb dX3_entryCount_27 hl (k := 3) rfl (by rw [ev27]; rfl) (by decide) rfl (fun ls hl => ?_)
        refine lv_goto (tgt := 4) hx hb dX3_entryCount_30 (by decide) ?_
        exact ih x1 x2 v27 _ _ hP hS _ (lv_sub hl [1, 2, 3, 0] rfl) hf
      · have hf := it_f c21 hf
        obtain ⟨v24, ev24, hf⟩ := slet_e hf
        refine lv_iinc (v := v24) (lv' := [(2, .int v24), (0, .ref m0), (1, .int x1), (3, .int x3)]) hx hb dX3_entryCount_24 hl (k := 2) rfl (by rw [ev24]; rfl) (by decide) rfl (fun ls hl => ?_)
        obtain ⟨v27, ev27, hf⟩ := slet_e hf
        refine lv_iinc (v := v27) (lv' := [(3, .int v27), (2, .int v24), (0, .ref m0), (1, .int x1)]) hx hb dX3_entryCount_27 hl (k := 3) rfl (by rw [ev27]; rfl) (by decide) rfl (fun ls hl => ?_)
        refine lv_goto (tgt := 4) hx hb dX3_entryCount_30 (by decide) ?_
        exact ih x1 v24 v27 _ _ hP hS _ (lv_sub hl [2, 3, 1, 0] rfl) hf
set_option maxHeartbeats 4000000 in
set_option maxRecDepth 100000 in
theorem cX3_entryCount_met (l : Launch) (dC : Nat → ClassId) (dI : Nat → Nat → Nat) (cI : ClassId) (m0 m1 m2 m3 m4 m5 : Nat) (mlim : Int32) (mkpt : Int32) (msyn : Int32) (mcn : Int32) (mkd : Nat → Int32) (msz : Nat → Int32) (mct : Nat → Int32) (men : Nat → Int32) (mch : Nat → Int32) (x1 : Int32) (r : Int32) (hf : fX3_entryCount x1 men = some r) : Met l yX3_entryCount wsX3_entryCount ({ frames := 0, cells := 0, slots := 0, locals := 0 } : Room) (pcR [.ref m0, .int x1] (dC, dI) vwCl [(cI, .int)] (wX3 cI m0 m1 m2 m3 m4 m5 mlim mkpt msyn mcn mkd msz mct men mch)) (qI r pT aN) 0 0 aN := by
  refine Met.ofW (cc := cX3_entryCount) (maxL := 4) (ret := (some .int)) (by decide) rfl ?_
  intro p e s m args below meth c s₁ B hml hv
  obtain ⟨rfl, hP, hK⟩ := hv
  have hx := B.exec
  have hb := B.bytes
  have hr := B.returns
  have hts := atoms_spec (ws := wsX3_entryCount) B.pre
  have hown : s.vm.findClass RX3 = some m.cls := findClass_of_methodNamed B.named
  have hlocks := B.notSynchronized
  have hS : va_S aN s.heap s.heap [] := va_S.rf
  have hl := lv_entry ([.ref m0, .int x1]) (n := 4) (Nat.le_of_ble_eq_true rfl)
  rw [lg_entry_eq]
  generalize (lg_sl ([.ref m0, .int x1]) ++ List.replicate (4 - (lg_sl ([.ref m0, .int x1])).length) Slot.unset).toArray = ls at hl ⊢
  have hl : lv_has ls 4 [(0, .ref m0), (1, .int x1)] := hl
  unfold fX3_entryCount at hf
  refine lv_iconst (v := 0) hx hb dX3_entryCount_0 (by decide) ?_
  refine lv_istore_n (lv' := [(2, .int 0), (0, .ref m0), (1, .int x1)]) hx hb dX3_entryCount_1 rfl hl (by decide) rfl (fun ls hl => ?_)
  refine lv_iconst (v := 0) hx hb dX3_entryCount_2 (by decide) ?_
  refine lv_istore_n (lv' := [(3, .int 0), (2, .int 0), (0, .ref m0), (1, .int x1)]) hx hb dX3_entryCount_3 rfl hl (by decide) rfl (fun ls hl => ?_)
  exact wbX3_entryCount_4 hx hb hml hown hts hr hlocks hK m0 m1 m2 m3 m4 m5 mlim mkpt msyn mcn mkd msz mct men mch r 2000 x1 0 0 _ _ hP hS _ (lv_sub hl [2, 3, 1, 0] rfl) hf
set_option maxHeartbeats 4000000 in
set_option maxRecDepth 100000 in
theorem wbX3_links_4 {p : Program} {l : Launch} {e : Env} {s : State} {m : MethodId} {args : Array Value} {below : List Frame} {meth : Method} {c : Code} {dC : Nat → ClassId} {dI : Nat → Nat → Nat} {cI : ClassId} (hx : p.tables.exec = Jvm.exec) (hb : c.code = cX3_links) (hml : c.maxLocals = 4) (hown : s.vm.findClass RX3 = some m.cls) (hts : ∀ w ∈ wsX3_links, w.before args s = true) (hr : meth.sig.returnType = (some .int)) (hlocks : meth.locks = false) (hK : va_K (dC, dI) vwCl [(cI, .int)] s) (m0 m1 m2 m3 m4 m5 : Nat) (mlim : Int32) (mkpt : Int32) (msyn : Int32) (mcn : Int32) (mkd : Nat → Int32) (msz : Nat → Int32) (mct : Nat → Int32) (men : Nat → Int32) (mch : Nat → Int32) (r : Int32) : ∀ (n : Nat), ∀ (x1 : Int32) (x2 : Int32) (x3 : Int32) (H : Heap) (locs : List Loc), va_P (dC, dI) vwCl (wX3 cI m0 m1 m2 m3 m4 m5 mlim mkpt msyn mcn mkd msz mct men mch) H → va_S aN s.heap H locs → ∀ (ls : Array Slot), lv_has ls 4 [(0, .ref m0), (1, .int x1), (2, .int x2), (3, .int x3)] → fX3_links_b4 men n x1 x2 x3 = some r → W p l e ({ frames := 0, cells := 0, slots := 0, locals := 0 } : Room) s m args below meth c H locs 0 0 (MQ below (qI r pT aN) args s 0 0 aN) (F0 m 4 ls []) := by
  intro n
  induction n with
  | zero =>
    intro x1 x2 x3 H locs hP hS ls hl hf
    cases hf
  | succ n ih =>
    intro x1 x2 x3 H locs hP hS ls hl hf
    rw [fX3_links_b4] at hf
    refine lv_iload_n hx hb dX3_links_4 rfl (lv_at hl 3 rfl) ?_
    refine lv_sipush (v := 512) hx hb dX3_links_5 (by decide) ?_
    refine lv_icmp_ge (tgt := 30) hx hb dX3_links_8 (by decide) (fun c8 => ?_) (fun c8 => ?_)
    · have hf := it_t c8 hf
      refine lv_iload_n hx hb dX3_links_30 rfl (lv_at hl 2 rfl) ?_
      cases hf
      exact retI hx hb hr hlocks trivial hS dX3_links_31
    · have hf := it_f c8 hf
      refine lv_aload_n hx hb dX3_links_11 rfl (lv_at hl 0 rfl) ?_
      refine va_get (D := (dC, dI)) (ci := 3) (v := .ref m4) (C := RX3) (T := TX3) (N := 9) hx hb hts (fun w h => mc (inX3 w h)) hown hK hP 0 rfl rfl 4 (by decide) (hts _ (mc q_246)) (fun _ h9 => h9) rfl dX3_links_12 ?_
      refine lv_iload_n hx hb dX3_links_15 rfl (lv_at hl 3 rfl) ?_
      obtain ⟨hiv16, v16, ev16, hf⟩ := ard_e hf
      refine rw_ald hx hb hK hP 4 0 rfl rfl hiv16 ev16 dX3_links_16 ?_
      refine lv_iload_n hx hb dX3_links_17 rfl (lv_at hl 1 rfl) ?_
      refine lv_icmp_ne (tgt := 24) hx hb dX3_links_18 (by decide) (fun c18 => ?_) (fun c18 => ?_)
      · have hf := it_f c18 hf
        obtain ⟨v24, ev24, hf⟩ := slet_e hf
        refine lv_iinc (v := v24) (lv' := [(3, .int v24), (0, .ref m0), (1, .int x1), (2, .int x2)]) hx hb dX3_links_24 hl (k := 3) rfl (by rw [ev24]; rfl) (by decide) rfl (fun ls hl => ?_)
        refine lv_goto (tgt := 4) hx hb dX3_links_27 (by decide) ?_
        exact ih x1 x2 v24 _ _ hP hS _ (lv_sub hl [1, 2, 3, 0] rfl) hf
      · have hf := it_t c18 hf
        obtain ⟨v21, ev21, hf⟩ := slet_e hf
        refine lv_iinc (v := v21) (lv' := [(2, .int v21), (0, .ref m0), (1, .int x1), (3, .int x3)]) hx hb dX3_links_21 hl (k := 2) rfl (by rw [ev21]; rfl) (by decide) rfl (fun ls hl => ?_)
        obtain ⟨v24, ev24, hf⟩ := slet_e hf
        refine lv_iinc (v := v24) (lv' := [(3, .int v24), (2, .int v21), (0, .ref m0), (1, .int x1)]) hx hb dX3_links_24 hl (k := 3) rfl (by rw [ev24]; rfl) (by decide) rfl (fun ls hl => ?_)
        refine lv_goto (tgt := 4) hx hb dX3_links_27 (by decide) ?_
        exact ih x1 v21 v24 _ _ hP hS _ (lv_sub hl [2, 3, 1, 0] rfl) hf
set_option maxHeartbeats 4000000 in
set_option maxRecDepth 100000 in
theorem cX3_links_met (l : Launch) (dC : Nat → ClassId) (dI : Nat → Nat → Nat) (cI : ClassId) (m0 m1 m2 m3 m4 m5 : Nat) (mlim : Int32) (mkpt : Int32) (msyn : Int32) (mcn : Int32) (mkd : Nat → Int32) (msz : Nat → Int32) (mct : Nat → Int32) (men : Nat → Int32) (mch : Nat → Int32) (x1 : Int32) (r : Int32) (hf : fX3_links x1 men = some r) : Met l yX3_links wsX3_links ({ frames := 0, cells := 0, slots := 0, locals := 0 } : Room) (pcR [.ref m0, .int x1] (dC, dI) vwCl [(cI, .int)] (wX3 cI m0 m1 m2 m3 m4 m5 mlim mkpt msyn mcn mkd msz mct men mch)) (qI r pT aN) 0 0 aN := by
  refine Met.ofW (cc := cX3_links) (maxL := 4) (ret := (some .int)) (by decide) rfl ?_
  intro p e s m args below meth c s₁ B hml hv
  obtain ⟨rfl, hP, hK⟩ := hv
  have hx := B.exec
  have hb := B.bytes
  have hr := B.returns
  have hts := atoms_spec (ws := wsX3_links) B.pre
  have hown : s.vm.findClass RX3 = some m.cls := findClass_of_methodNamed B.named
  have hlocks := B.notSynchronized
  have hS : va_S aN s.heap s.heap [] := va_S.rf
  have hl := lv_entry ([.ref m0, .int x1]) (n := 4) (Nat.le_of_ble_eq_true rfl)
  rw [lg_entry_eq]
  generalize (lg_sl ([.ref m0, .int x1]) ++ List.replicate (4 - (lg_sl ([.ref m0, .int x1])).length) Slot.unset).toArray = ls at hl ⊢
  have hl : lv_has ls 4 [(0, .ref m0), (1, .int x1)] := hl
  unfold fX3_links at hf
  refine lv_iconst (v := 0) hx hb dX3_links_0 (by decide) ?_
  refine lv_istore_n (lv' := [(2, .int 0), (0, .ref m0), (1, .int x1)]) hx hb dX3_links_1 rfl hl (by decide) rfl (fun ls hl => ?_)
  refine lv_iconst (v := 0) hx hb dX3_links_2 (by decide) ?_
  refine lv_istore_n (lv' := [(3, .int 0), (2, .int 0), (0, .ref m0), (1, .int x1)]) hx hb dX3_links_3 rfl hl (by decide) rfl (fun ls hl => ?_)
  exact wbX3_links_4 hx hb hml hown hts hr hlocks hK m0 m1 m2 m3 m4 m5 mlim mkpt msyn mcn mkd msz mct men mch r 2000 x1 0 0 _ _ hP hS _ (lv_sub hl [2, 3, 1, 0] rfl) hf
set_option maxHeartbeats 4000000 in
set_option maxRecDepth 100000 in
theorem cX3_isDir_met (l : Launch) (dC : Nat → ClassId) (dI : Nat → Nat → Nat) (cI : ClassId) (m0 m1 m2 m3 m4 m5 : Nat) (mlim : Int32) (mkpt : Int32) (msyn : Int32) (mcn : Int32) (mkd : Nat → Int32) (msz : Nat → Int32) (mct : Nat → Int32) (men : Nat → Int32) (mch : Nat → Int32) (x1 : Int32) (r : Int32) (hf : fX3_isDir x1 mkd = some r) : Met l yX3_isDir wsX3_isDir ({ frames := 0, cells := 0, slots := 0, locals := 0 } : Room) (pcR [.ref m0, .int x1] (dC, dI) vwCl [(cI, .int)] (wX3 cI m0 m1 m2 m3 m4 m5 mlim mkpt msyn mcn mkd msz mct men mch)) (qI r pT aN) 0 0 aN := by
  refine Met.ofW (cc := cX3_isDir) (maxL := 2) (ret := (some .boolean)) (by decide) rfl ?_
  intro p e s m args below meth c s₁ B hml hv
  obtain ⟨rfl, hP, hK⟩ := hv
  have hx := B.exec
  have hb := B.bytes
  have hr := B.returns
  have hts := atoms_spec (ws := wsX3_isDir) B.pre
  have hown : s.vm.findClass RX3 = some m.cls := findClass_of_methodNamed B.named
  have hlocks := B.notSynchronized
  have hS : va_S aN s.heap s.heap [] := va_S.rf
  have hl := lv_entry ([.ref m0, .int x1]) (n := 2) (Nat.le_of_ble_eq_true rfl)
  rw [lg_entry_eq]
  generalize (lg_sl ([.ref m0, .int x1]) ++ List.replicate (2 - (lg_sl ([.ref m0, .int x1])).length) Slot.unset).toArray = ls at hl ⊢
  have hl : lv_has ls 2 [(0, .ref m0), (1, .int x1)] := hl
  unfold fX3_isDir at hf
  refine lv_aload_n hx hb dX3_isDir_0 rfl (lv_at hl 0 rfl) ?_
  refine va_get (D := (dC, dI)) (ci := 3) (v := .ref m1) (C := RX3) (T := TX3) (N := 9) hx hb hts (fun w h => mc (inX3 w h)) hown hK hP 0 rfl rfl 1 (by decide) (hts _ (mc q_243)) (fun _ h9 => h9) rfl dX3_isDir_1 ?_
  refine lv_iload_n hx hb dX3_isDir_4 rfl (lv_at hl 1 rfl) ?_
  obtain ⟨hiv5, v5, ev5, hf⟩ := ard_e hf
  refine rw_ald hx hb hK hP 1 0 rfl rfl hiv5 ev5 dX3_isDir_5 ?_
  refine lv_iconst (v := 2) hx hb dX3_isDir_6 (by decide) ?_
  refine lv_icmp_ne (tgt := 14) hx hb dX3_isDir_7 (by decide) (fun c7 => ?_) (fun c7 => ?_)
  · have hf := it_f c7 hf
    refine lv_iconst (v := 0) hx hb dX3_isDir_14 (by decide) ?_
    cases hf
    exact retZ hx hb hr hlocks (by decide) trivial hS dX3_isDir_15
  · have hf := it_t c7 hf
    refine lv_iconst (v := 1) hx hb dX3_isDir_10 (by decide) ?_
    refine lv_goto (tgt := 15) hx hb dX3_isDir_11 (by decide) ?_
    cases hf
    exact retZ hx hb hr hlocks (by decide) trivial hS dX3_isDir_15
set_option maxHeartbeats 4000000 in
set_option maxRecDepth 100000 in
theorem wbX3_liesIn_25 {p : Program} {l : Launch} {e : Env} {s : State} {m : MethodId} {args : Array Value} {below : List Frame} {meth : Method} {c : Code} {dC : Nat → ClassId} {dI : Nat → Nat → Nat} {cI : ClassId} (hx : p.tables.exec = Jvm.exec) (hb : c.code = cX3_liesIn) (hml : c.maxLocals = 7) (hown : s.vm.findClass RX3 = some m.cls) (hts : ∀ w ∈ wsX3_liesIn, w.before args s = true) (hr : meth.sig.returnType = (some .boolean)) (hlocks : meth.locks = false) (hK : va_K (dC, dI) vwCl [(cI, .int)] s) (m0 m1 m2 m3 m4 m5 : Nat) (mlim : Int32) (mkpt : Int32) (msyn : Int32) (mcn : Int32) (mkd : Nat → Int32) (msz : Nat → Int32) (mct : Nat → Int32) (men : Nat → Int32) (mch : Nat → Int32) (r : Int32) (k5 : Int32 → Int32 → Int32 → Option (Int32)) (hk5 : ∀ (x2 : Int32) (x3 : Int32) (x4 : Int32) (H : Heap) (locs : List Loc), va_P (dC, dI) vwCl (wX3 cI m0 m1 m2 m3 m4 m5 mlim mkpt msyn mcn mkd msz mct men mch) H → va_S aN s.heap H locs → ∀ (ls : Array Slot), lv_has ls 7 [(0, .ref m0), (2, .int x2), (3, .int x3), (4, .int x4)] → k5 x2 x3 x4 = some r → W p l e ({ frames := 0, cells := 0, slots := 0, locals := 0 } : Room) s m args below meth c H locs 0 0 (MQ below (qI r pT aN) args s 0 0 aN) (F0 m 5 ls [])) : ∀ (n : Nat), ∀ (x2 : Int32) (x3 : Int32) (x4 : Int32) (x5 : Int32) (x6 : Int32) (H : Heap) (locs : List Loc), va_P (dC, dI) vwCl (wX3 cI m0 m1 m2 m3 m4 m5 mlim mkpt msyn mcn mkd msz mct men mch) H → va_S aN s.heap H locs → ∀ (ls : Array Slot), lv_has ls 7 [(0, .ref m0), (2, .int x2), (3, .int x3), (4, .int x4), (5, .int x5), (6, .int x6)] → fX3_liesIn_b25 men k5 n x2 x3 x4 x5 x6 = some r → W p l e ({ frames := 0, cells := 0, slots := 0, locals := 0 } : Room) s m args below meth c H locs 0 0 (MQ below (qI r pT aN) args s 0 0 aN) (F0 m 25 ls []) := by
  intro n
  induction n with
  | zero =>
    intro x2 x3 x4 x5 x6 H locs hP hS ls hl hf
    cases hf
  | succ n ih =>
    intro x2 x3 x4 x5 x6 H locs hP hS ls hl hf
    rw [fX3_liesIn_b25] at hf
    refine lv_iload hx hb dX3_liesIn_25 (lv_at hl 5 rfl) ?_
    refine lv_sipush (v := 512) hx hb dX3_liesIn_27 (by decide) ?_
    refine lv_icmp_ge (tgt := 57) hx hb dX3_liesIn_30 (by decide) (fun c30 => ?_) (fun c30 => ?_)
    · have hf := it_t c30 hf
      refine lv_iload hx hb dX3_liesIn_57 (lv_at hl 4 rfl) ?_
      refine lv_if_ge (tgt := 64) hx hb dX3_liesIn_59 (by decide) (fun c59 => ?_) (fun c59 => ?_)
      · have hf := it_t c59 hf
        refine lv_iload hx hb dX3_liesIn_64 (lv_at hl 4 rfl) ?_
        refine lv_istore_n (lv' := [(3, .int x5), (0, .ref m0), (2, .int x2), (4, .int x4), (5, .int x5), (6, .int x6)]) hx hb dX3_liesIn_66 rfl hl (by decide) rfl (fun ls hl => ?_)
        obtain ⟨v67, ev67, hf⟩ := slet_e hf
        refine lv_iinc (v := v67) (lv' := [(4, .int v67), (3, .int x5), (0, .ref m0), (2, .int x2), (5, .int x5), (6, .int x6)]) hx hb dX3_liesIn_67 hl (k := 3) rfl (by rw [ev67]; rfl) (by decide) rfl (fun ls hl => ?_)
        refine lv_goto (tgt := 5) hx hb dX3_liesIn_70 (by decide) ?_
        exact hk5 x2 x5 v67 _ _ hP hS _ (lv_sub hl [2, 3, 1, 0] rfl) hf
      · have hf := it_f c59 hf
        refine lv_iconst (v := 0) hx hb dX3_liesIn_62 (by decide) ?_
        cases hf
        exact retZ hx hb hr hlocks (by decide) trivial hS dX3_liesIn_63
    · have hf := it_f c30 hf
      refine lv_aload_n hx hb dX3_liesIn_33 rfl (lv_at hl 0 rfl) ?_
      refine va_get (D := (dC, dI)) (ci := 3) (v := .ref m4) (C := RX3) (T := TX3) (N := 9) hx hb hts (fun w h => mc (inX3 w h)) hown hK hP 0 rfl rfl 4 (by decide) (hts _ (mc q_246)) (fun _ h9 => h9) rfl dX3_liesIn_34 ?_
      refine lv_iload hx hb dX3_liesIn_37 (lv_at hl 5 rfl) ?_
      obtain ⟨hiv39, v39, ev39, hf⟩ := ard_e hf
      refine rw_ald hx hb hK hP 4 0 rfl rfl hiv39 ev39 dX3_liesIn_39 ?_
      refine lv_iload_n hx hb dX3_liesIn_40 rfl (lv_at hl 2 rfl) ?_
      refine lv_icmp_ne (tgt := 51) hx hb dX3_liesIn_41 (by decide) (fun c41 => ?_) (fun c41 => ?_)
      · have hf := it_f c41 hf
        obtain ⟨v51, ev51, hf⟩ := slet_e hf
        refine lv_iinc (v := v51) (lv' := [(6, .int v51), (0, .ref m0), (2, .int x2), (3, .int x3), (4, .int x4), (5, .int x5)]) hx hb dX3_liesIn_51 hl (k := 5) rfl (by rw [ev51]; rfl) (by decide) rfl (fun ls hl => ?_)
        refine lv_goto (tgt := 25) hx hb dX3_liesIn_54 (by decide) ?_
        exact ih x2 x3 x4 x5 v51 _ _ hP hS _ (lv_sub hl [1, 2, 3, 4, 5, 0] rfl) hf
      · have hf := it_t c41 hf
        refine lv_iload hx hb dX3_liesIn_44 (lv_at hl 5 rfl) ?_
        refine lv_bipush (v := 32) hx hb dX3_liesIn_46 (by decide) ?_
        obtain ⟨v48, ev48, hf⟩ := slet_e hf
        refine lv_idiv hx hb dX3_liesIn_48 (by decide) ?_
        refine rw_nm ev48 ?_
        refine lv_istore (lv' := [(5, .int v48), (0, .ref m0), (2, .int x2), (3, .int x3), (4, .int x4), (6, .int x6)]) hx hb dX3_liesIn_49 hl (by decide) rfl (fun ls hl => ?_)
        obtain ⟨v51, ev51, hf⟩ := slet_e hf
        refine lv_iinc (v := v51) (lv' := [(6, .int v51), (5, .int v48), (0, .ref m0), (2, .int x2), (3, .int x3), (4, .int x4)]) hx hb dX3_liesIn_51 hl (k := 5) rfl (by rw [ev51]; rfl) (by decide) rfl (fun ls hl => ?_)
        refine lv_goto (tgt := 25) hx hb dX3_liesIn_54 (by decide) ?_
        exact ih x2 x3 x4 v48 v51 _ _ hP hS _ (lv_sub hl [2, 3, 4, 5, 1, 0] rfl) hf
set_option maxHeartbeats 4000000 in
set_option maxRecDepth 100000 in
theorem wbX3_liesIn_5 {p : Program} {l : Launch} {e : Env} {s : State} {m : MethodId} {args : Array Value} {below : List Frame} {meth : Method} {c : Code} {dC : Nat → ClassId} {dI : Nat → Nat → Nat} {cI : ClassId} (hx : p.tables.exec = Jvm.exec) (hb : c.code = cX3_liesIn) (hml : c.maxLocals = 7) (hown : s.vm.findClass RX3 = some m.cls) (hts : ∀ w ∈ wsX3_liesIn, w.before args s = true) (hr : meth.sig.returnType = (some .boolean)) (hlocks : meth.locks = false) (hK : va_K (dC, dI) vwCl [(cI, .int)] s) (m0 m1 m2 m3 m4 m5 : Nat) (mlim : Int32) (mkpt : Int32) (msyn : Int32) (mcn : Int32) (mkd : Nat → Int32) (msz : Nat → Int32) (mct : Nat → Int32) (men : Nat → Int32) (mch : Nat → Int32) (r : Int32) : ∀ (n : Nat), ∀ (x2 : Int32) (x3 : Int32) (x4 : Int32) (H : Heap) (locs : List Loc), va_P (dC, dI) vwCl (wX3 cI m0 m1 m2 m3 m4 m5 mlim mkpt msyn mcn mkd msz mct men mch) H → va_S aN s.heap H locs → ∀ (ls : Array Slot), lv_has ls 7 [(0, .ref m0), (2, .int x2), (3, .int x3), (4, .int x4)] → fX3_liesIn_b5 men n x2 x3 x4 = some r → W p l e ({ frames := 0, cells := 0, slots := 0, locals := 0 } : Room) s m args below meth c H locs 0 0 (MQ below (qI r pT aN) args s 0 0 aN) (F0 m 5 ls []) := by
  intro n
  induction n with
  | zero =>
    intro x2 x3 x4 H locs hP hS ls hl hf
    cases hf
  | succ n ih =>
    intro x2 x3 x4 H locs hP hS ls hl hf
    rw [fX3_liesIn_b5] at hf
    refine lv_iload hx hb dX3_liesIn_5 (lv_at hl 3 rfl) ?_
    refine lv_bipush (v := 16) hx hb dX3_liesIn_7 (by decide) ?_
    refine lv_icmp_ge (tgt := 73) hx hb dX3_liesIn_9 (by decide) (fun c9 => ?_) (fun c9 => ?_)
    · have hf := it_t c9 hf
      refine lv_iconst (v := 0) hx hb dX3_liesIn_73 (by decide) ?_
      cases hf
      exact retZ hx hb hr hlocks (by decide) trivial hS dX3_liesIn_74
    · have hf := it_f c9 hf
      refine lv_iload_n hx hb dX3_liesIn_12 rfl (lv_at hl 2 rfl) ?_
      refine lv_iload_n hx hb dX3_liesIn_13 rfl (lv_at hl 1 rfl) ?_
      refine lv_icmp_ne (tgt := 19) hx hb dX3_liesIn_14 (by decide) (fun c14 => ?_) (fun c14 => ?_)
      · have hf := it_f c14 hf
        refine lv_iconst (v := -1) hx hb dX3_liesIn_19 (by decide) ?_
        refine lv_istore (lv' := [(5, .int (-1)), (0, .ref m0), (2, .int x2), (3, .int x3), (4, .int x4)]) hx hb dX3_liesIn_20 hl (by decide) rfl (fun ls hl => ?_)
        refine lv_iconst (v := 0) hx hb dX3_liesIn_22 (by decide) ?_
        refine lv_istore (lv' := [(6, .int 0), (5, .int (-1)), (0, .ref m0), (2, .int x2), (3, .int x3), (4, .int x4)]) hx hb dX3_liesIn_23 hl (by decide) rfl (fun ls hl => ?_)
        exact wbX3_liesIn_25 hx hb hml hown hts hr hlocks hK m0 m1 m2 m3 m4 m5 mlim mkpt msyn mcn mkd msz mct men mch r (fX3_liesIn_b5 men n) ih 2000 x2 x3 x4 (-1) 0 _ _ hP hS _ (lv_sub hl [2, 3, 4, 5, 1, 0] rfl) hf
      · have hf := it_t c14 hf
        refine lv_iconst (v := 1) hx hb dX3_liesIn_17 (by decide) ?_
        cases hf
        exact retZ hx hb hr hlocks (by decide) trivial hS dX3_liesIn_18
set_option maxHeartbeats 4000000 in
set_option maxRecDepth 100000 in
theorem cX3_liesIn_met (l : Launch) (dC : Nat → ClassId) (dI : Nat → Nat → Nat) (cI : ClassId) (m0 m1 m2 m3 m4 m5 : Nat) (mlim : Int32) (mkpt : Int32) (msyn : Int32) (mcn : Int32) (mkd : Nat → Int32) (msz : Nat → Int32) (mct : Nat → Int32) (men : Nat → Int32) (mch : Nat → Int32) (x1 : Int32) (x2 : Int32) (r : Int32) (hf : fX3_liesIn x1 x2 men = some r) : Met l yX3_liesIn wsX3_liesIn ({ frames := 0, cells := 0, slots := 0, locals := 0 } : Room) (pcR [.ref m0, .int x1, .int x2] (dC, dI) vwCl [(cI, .int)] (wX3 cI m0 m1 m2 m3 m4 m5 mlim mkpt msyn mcn mkd msz mct men mch)) (qI r pT aN) 0 0 aN := by
  refine Met.ofW (cc := cX3_liesIn) (maxL := 7) (ret := (some .boolean)) (by decide) rfl ?_
  intro p e s m args below meth c s₁ B hml hv
  obtain ⟨rfl, hP, hK⟩ := hv
  have hx := B.exec
  have hb := B.bytes
  have hr := B.returns
  have hts := atoms_spec (ws := wsX3_liesIn) B.pre
  have hown : s.vm.findClass RX3 = some m.cls := findClass_of_methodNamed B.named
  have hlocks := B.notSynchronized
  have hS : va_S aN s.heap s.heap [] := va_S.rf
  have hl := lv_entry ([.ref m0, .int x1, .int x2]) (n := 7) (Nat.le_of_ble_eq_true rfl)
  rw [lg_entry_eq]
  generalize (lg_sl ([.ref m0, .int x1, .int x2]) ++ List.replicate (7 - (lg_sl ([.ref m0, .int x1, .int x2])).length) Slot.unset).toArray = ls at hl ⊢
  have hl : lv_has ls 7 [(0, .ref m0), (1, .int x1), (2, .int x2)] := hl
  unfold fX3_liesIn at hf
  refine lv_iload_n hx hb dX3_liesIn_0 rfl (lv_at hl 1 rfl) ?_
  refine lv_istore_n (lv' := [(3, .int x1), (0, .ref m0), (1, .int x1), (2, .int x2)]) hx hb dX3_liesIn_1 rfl hl (by decide) rfl (fun ls hl => ?_)
  refine lv_iconst (v := 0) hx hb dX3_liesIn_2 (by decide) ?_
  refine lv_istore (lv' := [(4, .int 0), (3, .int x1), (0, .ref m0), (1, .int x1), (2, .int x2)]) hx hb dX3_liesIn_3 hl (by decide) rfl (fun ls hl => ?_)
  exact wbX3_liesIn_5 hx hb hml hown hts hr hlocks hK m0 m1 m2 m3 m4 m5 mlim mkpt msyn mcn mkd msz mct men mch r 2000 x2 x1 0 _ _ hP hS _ (lv_sub hl [2, 4, 1, 0] rfl) hf
set_option maxHeartbeats 4000000 in
set_option maxRecDepth 100000 in
theorem wbX3_leastAbsent_2 {p : Program} {l : Launch} {e : Env} {s : State} {m : MethodId} {args : Array Value} {below : List Frame} {meth : Method} {c : Code} {dC : Nat → ClassId} {dI : Nat → Nat → Nat} {cI : ClassId} (hx : p.tables.exec = Jvm.exec) (hb : c.code = cX3_leastAbsent) (hml : c.maxLocals = 2) (hown : s.vm.findClass RX3 = some m.cls) (hts : ∀ w ∈ wsX3_leastAbsent, w.before args s = true) (hr : meth.sig.returnType = (some .int)) (hlocks : meth.locks = false) (hK : va_K (dC, dI) vwCl [(cI, .int)] s) (m0 m1 m2 m3 m4 m5 : Nat) (mlim : Int32) (mkpt : Int32) (msyn : Int32) (mcn : Int32) (mkd : Nat → Int32) (msz : Nat → Int32) (mct : Nat → Int32) (men : Nat → Int32) (mch : Nat → Int32) (r : Int32) : ∀ (n : Nat), ∀ (x1 : Int32) (H : Heap) (locs : List Loc), va_P (dC, dI) vwCl (wX3 cI m0 m1 m2 m3 m4 m5 mlim mkpt msyn mcn mkd msz mct men mch) H → va_S aN s.heap H locs → ∀ (ls : Array Slot), lv_has ls 2 [(0, .ref m0), (1, .int x1)] → fX3_leastAbsent_b2 mkd n x1 = some r → W p l e ({ frames := 0, cells := 0, slots := 0, locals := 0 } : Room) s m args below meth c H locs 0 0 (MQ below (qI r pT aN) args s 0 0 aN) (F0 m 2 ls []) := by
  intro n
  induction n with
  | zero =>
    intro x1 H locs hP hS ls hl hf
    cases hf
  | succ n ih =>
    intro x1 H locs hP hS ls hl hf
    rw [fX3_leastAbsent_b2] at hf
    refine lv_iload_n hx hb dX3_leastAbsent_2 rfl (lv_at hl 1 rfl) ?_
    refine lv_bipush (v := 16) hx hb dX3_leastAbsent_3 (by decide) ?_
    refine lv_icmp_ge (tgt := 23) hx hb dX3_leastAbsent_5 (by decide) (fun c5 => ?_) (fun c5 => ?_)
    · have hf := it_t c5 hf
      refine lv_iload_n hx hb dX3_leastAbsent_23 rfl (lv_at hl 1 rfl) ?_
      cases hf
      exact retI hx hb hr hlocks trivial hS dX3_leastAbsent_24
    · have hf := it_f c5 hf
      refine lv_aload_n hx hb dX3_leastAbsent_8 rfl (lv_at hl 0 rfl) ?_
      refine va_get (D := (dC, dI)) (ci := 3) (v := .ref m1) (C := RX3) (T := TX3) (N := 9) hx hb hts (fun w h => mc (inX3 w h)) hown hK hP 0 rfl rfl 1 (by decide) (hts _ (mc q_243)) (fun _ h9 => h9) rfl dX3_leastAbsent_9 ?_
      refine lv_iload_n hx hb dX3_leastAbsent_12 rfl (lv_at hl 1 rfl) ?_
      obtain ⟨hiv13, v13, ev13, hf⟩ := ard_e hf
      refine rw_ald hx hb hK hP 1 0 rfl rfl hiv13 ev13 dX3_leastAbsent_13 ?_
      refine lv_if_eq (tgt := 23) hx hb dX3_leastAbsent_14 (by decide) (fun c14 => ?_) (fun c14 => ?_)
      · have hf := it_t c14 hf
        refine lv_iload_n hx hb dX3_leastAbsent_23 rfl (lv_at hl 1 rfl) ?_
        cases hf
        exact retI hx hb hr hlocks trivial hS dX3_leastAbsent_24
      · have hf := it_f c14 hf
        obtain ⟨v17, ev17, hf⟩ := slet_e hf
        refine lv_iinc (v := v17) (lv' := [(1, .int v17), (0, .ref m0)]) hx hb dX3_leastAbsent_17 hl (k := 1) rfl (by rw [ev17]; rfl) (by decide) rfl (fun ls hl => ?_)
        refine lv_goto (tgt := 2) hx hb dX3_leastAbsent_20 (by decide) ?_
        exact ih v17 _ _ hP hS _ (lv_sub hl [1, 0] rfl) hf
set_option maxHeartbeats 4000000 in
set_option maxRecDepth 100000 in
theorem cX3_leastAbsent_met (l : Launch) (dC : Nat → ClassId) (dI : Nat → Nat → Nat) (cI : ClassId) (m0 m1 m2 m3 m4 m5 : Nat) (mlim : Int32) (mkpt : Int32) (msyn : Int32) (mcn : Int32) (mkd : Nat → Int32) (msz : Nat → Int32) (mct : Nat → Int32) (men : Nat → Int32) (mch : Nat → Int32) (r : Int32) (hf : fX3_leastAbsent mkd = some r) : Met l yX3_leastAbsent wsX3_leastAbsent ({ frames := 0, cells := 0, slots := 0, locals := 0 } : Room) (pcR [.ref m0] (dC, dI) vwCl [(cI, .int)] (wX3 cI m0 m1 m2 m3 m4 m5 mlim mkpt msyn mcn mkd msz mct men mch)) (qI r pT aN) 0 0 aN := by
  refine Met.ofW (cc := cX3_leastAbsent) (maxL := 2) (ret := (some .int)) (by decide) rfl ?_
  intro p e s m args below meth c s₁ B hml hv
  obtain ⟨rfl, hP, hK⟩ := hv
  have hx := B.exec
  have hb := B.bytes
  have hr := B.returns
  have hts := atoms_spec (ws := wsX3_leastAbsent) B.pre
  have hown : s.vm.findClass RX3 = some m.cls := findClass_of_methodNamed B.named
  have hlocks := B.notSynchronized
  have hS : va_S aN s.heap s.heap [] := va_S.rf
  have hl := lv_entry ([.ref m0]) (n := 2) (Nat.le_of_ble_eq_true rfl)
  rw [lg_entry_eq]
  generalize (lg_sl ([.ref m0]) ++ List.replicate (2 - (lg_sl ([.ref m0])).length) Slot.unset).toArray = ls at hl ⊢
  have hl : lv_has ls 2 [(0, .ref m0)] := hl
  unfold fX3_leastAbsent at hf
  refine lv_iconst (v := 1) hx hb dX3_leastAbsent_0 (by decide) ?_
  refine lv_istore_n (lv' := [(1, .int 1), (0, .ref m0)]) hx hb dX3_leastAbsent_1 rfl hl (by decide) rfl (fun ls hl => ?_)
  exact wbX3_leastAbsent_2 hx hb hml hown hts hr hlocks hK m0 m1 m2 m3 m4 m5 mlim mkpt msyn mcn mkd msz mct men mch r 2000 1 _ _ hP hS _ (lv_sub hl [1, 0] rfl) hf
theorem gX3_objection_36 : GoodIn wsX3_objection (wsV RX3 36 RX3 yX3_isDir wsX3_isDir) := gIn (memV q_264 q_265 q_352 q_5 q_266)
theorem gX3_objection_40 : GoodIn wsX3_objection (wsV RX3 40 RX3 yX3_entryCount wsX3_entryCount) := gIn (memV q_267 q_268 q_353 q_5 q_269)
theorem gX3_objection_44 : GoodIn wsX3_objection (wsV RX3 44 RX3 yX3_nodes wsX3_nodes) := gIn (memV q_270 q_271 q_354 q_5 q_272)
theorem gX3_objection_48 : GoodIn wsX3_objection (wsV RX3 48 RX3 yX3_liesIn wsX3_liesIn) := gIn (memV q_273 q_274 q_355 q_5 q_275)
set_option maxHeartbeats 4000000 in
set_option maxRecDepth 100000 in
theorem wbX3_objection_303 {p : Program} {l : Launch} {e : Env} {s : State} {m : MethodId} {args : Array Value} {below : List Frame} {meth : Method} {c : Code} {dC : Nat → ClassId} {dI : Nat → Nat → Nat} {cI : ClassId} (hx : p.tables.exec = Jvm.exec) (hb : c.code = cX3_objection) (hml : c.maxLocals = 6) (hown : s.vm.findClass RX3 = some m.cls) (hts : ∀ w ∈ wsX3_objection, w.before args s = true) (hr : meth.sig.returnType = (some .int)) (hlocks : meth.locks = false) (hK : va_K (dC, dI) vwCl [(cI, .int)] s) (m0 m1 m2 m3 m4 m5 : Nat) (mlim : Int32) (mkpt : Int32) (msyn : Int32) (mcn : Int32) (mkd : Nat → Int32) (msz : Nat → Int32) (mct : Nat → Int32) (men : Nat → Int32) (mch : Nat → Int32) (r : Int32) : ∀ (x2 : Int32) (x4 : Int32) (H : Heap) (locs : List Loc), va_P (dC, dI) vwCl (wX3 cI m0 m1 m2 m3 m4 m5 mlim mkpt msyn mcn mkd msz mct men mch) H → va_S aN s.heap H locs → ∀ (ls : Array Slot), lv_has ls 6 [(0, .ref m0), (2, .int x2), (4, .int x4)] → fX3_objection_b303 mkd msz men x2 x4 = some r → W p l e ({ frames := 1, cells := 0, slots := 0, locals := 26 } : Room) s m args below meth c H locs 0 0 (MQ below (qI r pT aN) args s 0 0 aN) (F0 m 303 ls []) := by
  intro x2 x4 H locs hP hS ls hl hf
  unfold fX3_objection_b303 at hf
  refine lv_iload hx hb dX3_objection_303 (lv_at hl 2 rfl) ?_
  refine lv_iload_n hx hb dX3_objection_305 rfl (lv_at hl 1 rfl) ?_
  refine lv_icmp_eq (tgt := 325) hx hb dX3_objection_306 (by decide) (fun c306 => ?_) (fun c306 => ?_)
  · have hf := it_t c306 hf
    refine lv_iconst (v := 0) hx hb dX3_objection_325 (by decide) ?_
    cases hf
    exact retI hx hb hr hlocks trivial hS dX3_objection_326
  · have hf := it_f c306 hf
    refine lv_aload_n hx hb dX3_objection_309 rfl (lv_at hl 0 rfl) ?_
    refine lv_iload hx hb dX3_objection_310 (lv_at hl 2 rfl) ?_
    obtain ⟨r312, hc312, hf⟩ := bn1_e hf
    refine callRi (va_runV (As := [.int x4]) (rest := []) ⟨hx, hb, hml, hown, hts⟩ (cX3_entryCount_met l dC dI cI m0 m1 m2 m3 m4 m5 mlim mkpt msyn mcn mkd msz mct men mch x4 r312 hc312) (cwV 1 hts gX3_objection_40 rfl rfl rfl (by decide +kernel) ⟨Nat.le_of_ble_eq_true rfl, Nat.le_of_ble_eq_true rfl⟩) (preRV (ci := 3) (q0 := 0) hK hP rfl rfl) rfl rfl hl.1 rfl (lv_room (Nat.le_of_ble_eq_true rfl)) dX3_objection_312 ⟨Nat.le_of_ble_eq_true rfl, Nat.le_of_ble_eq_true rfl⟩) hS hP (fun H locs hP hS => ?_)
    refine lv_bipush (v := 8) hx hb dX3_objection_315 (by decide) ?_
    refine lv_icmp_ne (tgt := 325) hx hb dX3_objection_317 (by decide) (fun c317 => ?_) (fun c317 => ?_)
    · have hf := it_f c317 hf
      refine lv_iconst (v := 0) hx hb dX3_objection_325 (by decide) ?_
      cases hf
      exact retI hx hb hr hlocks trivial hS dX3_objection_326
    · have hf := it_t c317 hf
      refine lv_bipush (v := -5) hx hb dX3_objection_320 (by decide) ?_
      refine lv_goto (tgt := 326) hx hb dX3_objection_322 (by decide) ?_
      cases hf
      exact retI hx hb hr hlocks trivial hS dX3_objection_326
set_option maxHeartbeats 4000000 in
set_option maxRecDepth 100000 in
theorem cX3_objection_met (l : Launch) (dC : Nat → ClassId) (dI : Nat → Nat → Nat) (cI : ClassId) (m0 m1 m2 m3 m4 m5 : Nat) (mlim : Int32) (mkpt : Int32) (msyn : Int32) (mcn : Int32) (mkd : Nat → Int32) (msz : Nat → Int32) (mct : Nat → Int32) (men : Nat → Int32) (mch : Nat → Int32) (x1 : Int32) (x2 : Int32) (x3 : Int32) (x4 : Int32) (x5 : Int32) (r : Int32) (hf : fX3_objection x1 x2 x3 x4 x5 mkd msz men = some r) : Met l yX3_objection wsX3_objection ({ frames := 1, cells := 0, slots := 0, locals := 26 } : Room) (pcR [.ref m0, .int x1, .int x2, .int x3, .int x4, .int x5] (dC, dI) vwCl [(cI, .int)] (wX3 cI m0 m1 m2 m3 m4 m5 mlim mkpt msyn mcn mkd msz mct men mch)) (qI r pT aN) 0 0 aN := by
  refine Met.ofW (cc := cX3_objection) (maxL := 6) (ret := (some .int)) (by decide) rfl ?_
  intro p e s m args below meth c s₁ B hml hv
  obtain ⟨rfl, hP, hK⟩ := hv
  have hx := B.exec
  have hb := B.bytes
  have hr := B.returns
  have hts := atoms_spec (ws := wsX3_objection) B.pre
  have hown : s.vm.findClass RX3 = some m.cls := findClass_of_methodNamed B.named
  have hlocks := B.notSynchronized
  have hS : va_S aN s.heap s.heap [] := va_S.rf
  have hl := lv_entry ([.ref m0, .int x1, .int x2, .int x3, .int x4, .int x5]) (n := 6) (Nat.le_of_ble_eq_true rfl)
  rw [lg_entry_eq]
  generalize (lg_sl ([.ref m0, .int x1, .int x2, .int x3, .int x4, .int x5]) ++ List.replicate (6 - (lg_sl ([.ref m0, .int x1, .int x2, .int x3, .int x4, .int x5])).length) Slot.unset).toArray = ls at hl ⊢
  have hl : lv_has ls 6 [(0, .ref m0), (1, .int x1), (2, .int x2), (3, .int x3), (4, .int x4), (5, .int x5)] := hl
  unfold fX3_objection at hf
  refine lv_iload_n hx hb dX3_objection_0 rfl (lv_at hl 1 rfl) ?_
  by_cases c1_0 : x1 = 0
  · have hf := it_t c1_0 hf
    refine lv_tableIn (tgt := 32) hx hb dX3_objection_1 (by rw [c1_0]; decide) (by rw [c1_0]; decide) (off := 31) (by rw [c1_0]; decide) (by decide) ?_
    refine lv_aload_n hx hb dX3_objection_32 rfl (lv_at hl 0 rfl) ?_
    refine lv_iload_n hx hb dX3_objection_33 rfl (lv_at hl 2 rfl) ?_
    obtain ⟨r34, hc34, hf⟩ := bn1_e hf
    refine callRi (va_runV (As := [.int x2]) (rest := []) ⟨hx, hb, hml, hown, hts⟩ (cX3_isDir_met l dC dI cI m0 m1 m2 m3 m4 m5 mlim mkpt msyn mcn mkd msz mct men mch x2 r34 hc34) (cwV 1 hts gX3_objection_36 rfl rfl rfl (by decide +kernel) ⟨Nat.le_of_ble_eq_true rfl, Nat.le_of_ble_eq_true rfl⟩) (preRV (ci := 3) (q0 := 0) hK hP rfl rfl) rfl rfl hl.1 rfl (lv_room (Nat.le_of_ble_eq_true rfl)) dX3_objection_34 ⟨Nat.le_of_ble_eq_true rfl, Nat.le_of_ble_eq_true rfl⟩) hS hP (fun H locs hP hS => ?_)
    refine lv_if_ne (tgt := 43) hx hb dX3_objection_37 (by decide) (fun c37 => ?_) (fun c37 => ?_)
    · have hf := it_f c37 hf
      refine lv_aload_n hx hb dX3_objection_43 rfl (lv_at hl 0 rfl) ?_
      refine va_get (D := (dC, dI)) (ci := 3) (v := .ref m4) (C := RX3) (T := TX3) (N := 9) hx hb hts (fun w h => mc (inX3 w h)) hown hK hP 0 rfl rfl 4 (by decide) (hts _ (mc q_246)) (fun _ h9 => h9) rfl dX3_objection_44 ?_
      refine lv_bipush (v := 32) hx hb dX3_objection_47 (by decide) ?_
      refine lv_iload_n hx hb dX3_objection_49 rfl (lv_at hl 2 rfl) ?_
      obtain ⟨v50, ev50, hf⟩ := slet_e hf
      refine lv_imul hx hb dX3_objection_50 ?_
      refine rw_nm ev50 ?_
      refine lv_iload_n hx hb dX3_objection_51 rfl (lv_at hl 3 rfl) ?_
      obtain ⟨v52, ev52, hf⟩ := slet_e hf
      refine lv_iadd hx hb dX3_objection_52 ?_
      refine rw_nm ev52 ?_
      obtain ⟨hiv53, v53, ev53, hf⟩ := ard_e hf
      refine rw_ald hx hb hK hP 4 0 rfl rfl hiv53 ev53 dX3_objection_53 ?_
      refine lv_if_lt (tgt := 60) hx hb dX3_objection_54 (by decide) (fun c54 => ?_) (fun c54 => ?_)
      · have hf := it_t c54 hf
        refine lv_aload_n hx hb dX3_objection_60 rfl (lv_at hl 0 rfl) ?_
        refine lv_iload_n hx hb dX3_objection_61 rfl (lv_at hl 2 rfl) ?_
        obtain ⟨r62, hc62, hf⟩ := bn1_e hf
        refine callRi (va_runV (As := [.int x2]) (rest := []) ⟨hx, hb, hml, hown, hts⟩ (cX3_entryCount_met l dC dI cI m0 m1 m2 m3 m4 m5 mlim mkpt msyn mcn mkd msz mct men mch x2 r62 hc62) (cwV 1 hts gX3_objection_40 rfl rfl rfl (by decide +kernel) ⟨Nat.le_of_ble_eq_true rfl, Nat.le_of_ble_eq_true rfl⟩) (preRV (ci := 3) (q0 := 0) hK hP rfl rfl) rfl rfl hl.1 rfl (lv_room (Nat.le_of_ble_eq_true rfl)) dX3_objection_62 ⟨Nat.le_of_ble_eq_true rfl, Nat.le_of_ble_eq_true rfl⟩) hS hP (fun H locs hP hS => ?_)
        refine lv_bipush (v := 8) hx hb dX3_objection_65 (by decide) ?_
        refine lv_icmp_eq (tgt := 79) hx hb dX3_objection_67 (by decide) (fun c67 => ?_) (fun c67 => ?_)
        · have hf := it_t c67 hf
          refine lv_bipush (v := -5) hx hb dX3_objection_79 (by decide) ?_
          refine lv_goto (tgt := 85) hx hb dX3_objection_81 (by decide) ?_
          cases hf
          exact retI hx hb hr hlocks trivial hS dX3_objection_85
        · have hf := it_f c67 hf
          refine lv_aload_n hx hb dX3_objection_70 rfl (lv_at hl 0 rfl) ?_
          obtain ⟨r71, hc71, hf⟩ := bn1_e hf
          refine callRi (va_runV (As := []) (rest := []) ⟨hx, hb, hml, hown, hts⟩ (cX3_nodes_met l dC dI cI m0 m1 m2 m3 m4 m5 mlim mkpt msyn mcn mkd msz mct men mch r71 hc71) (cwV 0 hts gX3_objection_44 rfl rfl rfl (by decide +kernel) ⟨Nat.le_of_ble_eq_true rfl, Nat.le_of_ble_eq_true rfl⟩) (preRV (ci := 3) (q0 := 0) hK hP rfl rfl) rfl rfl hl.1 rfl (lv_room (Nat.le_of_ble_eq_true rfl)) dX3_objection_71 ⟨Nat.le_of_ble_eq_true rfl, Nat.le_of_ble_eq_true rfl⟩) hS hP (fun H locs hP hS => ?_)
          refine lv_bipush (v := 16) hx hb dX3_objection_74 (by decide) ?_
          refine lv_icmp_ne (tgt := 84) hx hb dX3_objection_76 (by decide) (fun c76 => ?_) (fun c76 => ?_)
          · have hf := it_f c76 hf
            refine lv_iconst (v := 0) hx hb dX3_objection_84 (by decide) ?_
            cases hf
            exact retI hx hb hr hlocks trivial hS dX3_objection_85
          · have hf := it_t c76 hf
            refine lv_bipush (v := -5) hx hb dX3_objection_79 (by decide) ?_
            refine lv_goto (tgt := 85) hx hb dX3_objection_81 (by decide) ?_
            cases hf
            exact retI hx hb hr hlocks trivial hS dX3_objection_85
      · have hf := it_f c54 hf
        refine lv_bipush (v := -3) hx hb dX3_objection_57 (by decide) ?_
        cases hf
        exact retI hx hb hr hlocks trivial hS dX3_objection_59
    · have hf := it_t c37 hf
      refine lv_bipush (v := -2) hx hb dX3_objection_40 (by decide) ?_
      cases hf
      exact retI hx hb hr hlocks trivial hS dX3_objection_42
  have hf := it_f c1_0 hf
  by_cases c1_1 : x1 = 1
  · have hf := it_t c1_1 hf
    refine lv_tableIn (tgt := 86) hx hb dX3_objection_1 (by rw [c1_1]; decide) (by rw [c1_1]; decide) (off := 85) (by rw [c1_1]; decide) (by decide) ?_
    refine lv_aload_n hx hb dX3_objection_86 rfl (lv_at hl 0 rfl) ?_
    refine lv_iload_n hx hb dX3_objection_87 rfl (lv_at hl 2 rfl) ?_
    obtain ⟨r88, hc88, hf⟩ := bn1_e hf
    refine callRi (va_runV (As := [.int x2]) (rest := []) ⟨hx, hb, hml, hown, hts⟩ (cX3_isDir_met l dC dI cI m0 m1 m2 m3 m4 m5 mlim mkpt msyn mcn mkd msz mct men mch x2 r88 hc88) (cwV 1 hts gX3_objection_36 rfl rfl rfl (by decide +kernel) ⟨Nat.le_of_ble_eq_true rfl, Nat.le_of_ble_eq_true rfl⟩) (preRV (ci := 3) (q0 := 0) hK hP rfl rfl) rfl rfl hl.1 rfl (lv_room (Nat.le_of_ble_eq_true rfl)) dX3_objection_88 ⟨Nat.le_of_ble_eq_true rfl, Nat.le_of_ble_eq_true rfl⟩) hS hP (fun H locs hP hS => ?_)
    refine lv_if_eq (tgt := 105) hx hb dX3_objection_91 (by decide) (fun c91 => ?_) (fun c91 => ?_)
    · have hf := it_t c91 hf
      refine lv_bipush (v := -2) hx hb dX3_objection_105 (by decide) ?_
      cases hf
      exact retI hx hb hr hlocks trivial hS dX3_objection_107
    · have hf := it_f c91 hf
      refine lv_aload_n hx hb dX3_objection_94 rfl (lv_at hl 0 rfl) ?_
      refine va_get (D := (dC, dI)) (ci := 3) (v := .ref m1) (C := RX3) (T := TX3) (N := 9) hx hb hts (fun w h => mc (inX3 w h)) hown hK hP 0 rfl rfl 1 (by decide) (hts _ (mc q_243)) (fun _ h9 => h9) rfl dX3_objection_95 ?_
      refine lv_iload hx hb dX3_objection_98 (lv_at hl 4 rfl) ?_
      obtain ⟨hiv100, v100, ev100, hf⟩ := ard_e hf
      refine rw_ald hx hb hK hP 1 0 rfl rfl hiv100 ev100 dX3_objection_100 ?_
      refine lv_iconst (v := 1) hx hb dX3_objection_101 (by decide) ?_
      refine lv_icmp_eq (tgt := 108) hx hb dX3_objection_102 (by decide) (fun c102 => ?_) (fun c102 => ?_)
      · have hf := it_t c102 hf
        refine lv_aload_n hx hb dX3_objection_108 rfl (lv_at hl 0 rfl) ?_
        refine va_get (D := (dC, dI)) (ci := 3) (v := .ref m4) (C := RX3) (T := TX3) (N := 9) hx hb hts (fun w h => mc (inX3 w h)) hown hK hP 0 rfl rfl 4 (by decide) (hts _ (mc q_246)) (fun _ h9 => h9) rfl dX3_objection_109 ?_
        refine lv_bipush (v := 32) hx hb dX3_objection_112 (by decide) ?_
        refine lv_iload_n hx hb dX3_objection_114 rfl (lv_at hl 2 rfl) ?_
        obtain ⟨v115, ev115, hf⟩ := slet_e hf
        refine lv_imul hx hb dX3_objection_115 ?_
        refine rw_nm ev115 ?_
        refine lv_iload_n hx hb dX3_objection_116 rfl (lv_at hl 3 rfl) ?_
        obtain ⟨v117, ev117, hf⟩ := slet_e hf
        refine lv_iadd hx hb dX3_objection_117 ?_
        refine rw_nm ev117 ?_
        obtain ⟨hiv118, v118, ev118, hf⟩ := ard_e hf
        refine rw_ald hx hb hK hP 4 0 rfl rfl hiv118 ev118 dX3_objection_118 ?_
        refine lv_if_lt (tgt := 125) hx hb dX3_objection_119 (by decide) (fun c119 => ?_) (fun c119 => ?_)
        · have hf := it_t c119 hf
          refine lv_aload_n hx hb dX3_objection_125 rfl (lv_at hl 0 rfl) ?_
          refine lv_iload_n hx hb dX3_objection_126 rfl (lv_at hl 2 rfl) ?_
          obtain ⟨r127, hc127, hf⟩ := bn1_e hf
          refine callRi (va_runV (As := [.int x2]) (rest := []) ⟨hx, hb, hml, hown, hts⟩ (cX3_entryCount_met l dC dI cI m0 m1 m2 m3 m4 m5 mlim mkpt msyn mcn mkd msz mct men mch x2 r127 hc127) (cwV 1 hts gX3_objection_40 rfl rfl rfl (by decide +kernel) ⟨Nat.le_of_ble_eq_true rfl, Nat.le_of_ble_eq_true rfl⟩) (preRV (ci := 3) (q0 := 0) hK hP rfl rfl) rfl rfl hl.1 rfl (lv_room (Nat.le_of_ble_eq_true rfl)) dX3_objection_127 ⟨Nat.le_of_ble_eq_true rfl, Nat.le_of_ble_eq_true rfl⟩) hS hP (fun H locs hP hS => ?_)
          refine lv_bipush (v := 8) hx hb dX3_objection_130 (by decide) ?_
          refine lv_icmp_ne (tgt := 140) hx hb dX3_objection_132 (by decide) (fun c132 => ?_) (fun c132 => ?_)
          · have hf := it_f c132 hf
            refine lv_iconst (v := 0) hx hb dX3_objection_140 (by decide) ?_
            cases hf
            exact retI hx hb hr hlocks trivial hS dX3_objection_141
          · have hf := it_t c132 hf
            refine lv_bipush (v := -5) hx hb dX3_objection_135 (by decide) ?_
            refine lv_goto (tgt := 141) hx hb dX3_objection_137 (by decide) ?_
            cases hf
            exact retI hx hb hr hlocks trivial hS dX3_objection_141
        · have hf := it_f c119 hf
          refine lv_bipush (v := -3) hx hb dX3_objection_122 (by decide) ?_
          cases hf
          exact retI hx hb hr hlocks trivial hS dX3_objection_124
      · have hf := it_f c102 hf
        refine lv_bipush (v := -2) hx hb dX3_objection_105 (by decide) ?_
        cases hf
        exact retI hx hb hr hlocks trivial hS dX3_objection_107
  have hf := it_f c1_1 hf
  by_cases c1_2 : x1 = 2
  · have hf := it_t c1_2 hf
    refine lv_tableIn (tgt := 142) hx hb dX3_objection_1 (by rw [c1_2]; decide) (by rw [c1_2]; decide) (off := 141) (by rw [c1_2]; decide) (by decide) ?_
    refine lv_aload_n hx hb dX3_objection_142 rfl (lv_at hl 0 rfl) ?_
    refine lv_iload_n hx hb dX3_objection_143 rfl (lv_at hl 2 rfl) ?_
    obtain ⟨r144, hc144, hf⟩ := bn1_e hf
    refine callRi (va_runV (As := [.int x2]) (rest := []) ⟨hx, hb, hml, hown, hts⟩ (cX3_isDir_met l dC dI cI m0 m1 m2 m3 m4 m5 mlim mkpt msyn mcn mkd msz mct men mch x2 r144 hc144) (cwV 1 hts gX3_objection_36 rfl rfl rfl (by decide +kernel) ⟨Nat.le_of_ble_eq_true rfl, Nat.le_of_ble_eq_true rfl⟩) (preRV (ci := 3) (q0 := 0) hK hP rfl rfl) rfl rfl hl.1 rfl (lv_room (Nat.le_of_ble_eq_true rfl)) dX3_objection_144 ⟨Nat.le_of_ble_eq_true rfl, Nat.le_of_ble_eq_true rfl⟩) hS hP (fun H locs hP hS => ?_)
    refine lv_if_eq (tgt := 164) hx hb dX3_objection_147 (by decide) (fun c147 => ?_) (fun c147 => ?_)
    · have hf := it_t c147 hf
      refine lv_bipush (v := -2) hx hb dX3_objection_164 (by decide) ?_
      cases hf
      exact retI hx hb hr hlocks trivial hS dX3_objection_166
    · have hf := it_f c147 hf
      refine lv_aload_n hx hb dX3_objection_150 rfl (lv_at hl 0 rfl) ?_
      refine va_get (D := (dC, dI)) (ci := 3) (v := .ref m4) (C := RX3) (T := TX3) (N := 9) hx hb hts (fun w h => mc (inX3 w h)) hown hK hP 0 rfl rfl 4 (by decide) (hts _ (mc q_246)) (fun _ h9 => h9) rfl dX3_objection_151 ?_
      refine lv_bipush (v := 32) hx hb dX3_objection_154 (by decide) ?_
      refine lv_iload_n hx hb dX3_objection_156 rfl (lv_at hl 2 rfl) ?_
      obtain ⟨v157, ev157, hf⟩ := slet_e hf
      refine lv_imul hx hb dX3_objection_157 ?_
      refine rw_nm ev157 ?_
      refine lv_iload_n hx hb dX3_objection_158 rfl (lv_at hl 3 rfl) ?_
      obtain ⟨v159, ev159, hf⟩ := slet_e hf
      refine lv_iadd hx hb dX3_objection_159 ?_
      refine rw_nm ev159 ?_
      obtain ⟨hiv160, v160, ev160, hf⟩ := ard_e hf
      refine rw_ald hx hb hK hP 4 0 rfl rfl hiv160 ev160 dX3_objection_160 ?_
      refine lv_if_ge (tgt := 167) hx hb dX3_objection_161 (by decide) (fun c161 => ?_) (fun c161 => ?_)
      · have hf := it_t c161 hf
        refine lv_aload_n hx hb dX3_objection_167 rfl (lv_at hl 0 rfl) ?_
        refine lv_aload_n hx hb dX3_objection_168 rfl (lv_at hl 0 rfl) ?_
        refine va_get (D := (dC, dI)) (ci := 3) (v := .ref m4) (C := RX3) (T := TX3) (N := 9) hx hb hts (fun w h => mc (inX3 w h)) hown hK hP 0 rfl rfl 4 (by decide) (hts _ (mc q_246)) (fun _ h9 => h9) rfl dX3_objection_169 ?_
        refine lv_bipush (v := 32) hx hb dX3_objection_172 (by decide) ?_
        refine lv_iload_n hx hb dX3_objection_174 rfl (lv_at hl 2 rfl) ?_
        obtain ⟨v175, ev175, hf⟩ := slet_e hf
        refine lv_imul hx hb dX3_objection_175 ?_
        refine rw_nm ev175 ?_
        refine lv_iload_n hx hb dX3_objection_176 rfl (lv_at hl 3 rfl) ?_
        obtain ⟨v177, ev177, hf⟩ := slet_e hf
        refine lv_iadd hx hb dX3_objection_177 ?_
        refine rw_nm ev177 ?_
        obtain ⟨hiv178, v178, ev178, hf⟩ := ard_e hf
        refine rw_ald hx hb hK hP 4 0 rfl rfl hiv178 ev178 dX3_objection_178 ?_
        obtain ⟨r179, hc179, hf⟩ := bn1_e hf
        refine callRi (va_runV (As := [.int v178]) (rest := []) ⟨hx, hb, hml, hown, hts⟩ (cX3_isDir_met l dC dI cI m0 m1 m2 m3 m4 m5 mlim mkpt msyn mcn mkd msz mct men mch v178 r179 hc179) (cwV 1 hts gX3_objection_36 rfl rfl rfl (by decide +kernel) ⟨Nat.le_of_ble_eq_true rfl, Nat.le_of_ble_eq_true rfl⟩) (preRV (ci := 3) (q0 := 0) hK hP rfl rfl) rfl rfl hl.1 rfl (lv_room (Nat.le_of_ble_eq_true rfl)) dX3_objection_179 ⟨Nat.le_of_ble_eq_true rfl, Nat.le_of_ble_eq_true rfl⟩) hS hP (fun H locs hP hS => ?_)
        refine lv_if_eq (tgt := 208) hx hb dX3_objection_182 (by decide) (fun c182 => ?_) (fun c182 => ?_)
        · have hf := it_t c182 hf
          refine lv_iconst (v := 0) hx hb dX3_objection_208 (by decide) ?_
          cases hf
          exact retI hx hb hr hlocks trivial hS dX3_objection_209
        · have hf := it_f c182 hf
          refine lv_aload_n hx hb dX3_objection_185 rfl (lv_at hl 0 rfl) ?_
          refine lv_aload_n hx hb dX3_objection_186 rfl (lv_at hl 0 rfl) ?_
          refine va_get (D := (dC, dI)) (ci := 3) (v := .ref m4) (C := RX3) (T := TX3) (N := 9) hx hb hts (fun w h => mc (inX3 w h)) hown hK hP 0 rfl rfl 4 (by decide) (hts _ (mc q_246)) (fun _ h9 => h9) rfl dX3_objection_187 ?_
          refine lv_bipush (v := 32) hx hb dX3_objection_190 (by decide) ?_
          refine lv_iload_n hx hb dX3_objection_192 rfl (lv_at hl 2 rfl) ?_
          obtain ⟨v193, ev193, hf⟩ := slet_e hf
          refine lv_imul hx hb dX3_objection_193 ?_
          refine rw_nm ev193 ?_
          refine lv_iload_n hx hb dX3_objection_194 rfl (lv_at hl 3 rfl) ?_
          obtain ⟨v195, ev195, hf⟩ := slet_e hf
          refine lv_iadd hx hb dX3_objection_195 ?_
          refine rw_nm ev195 ?_
          obtain ⟨hiv196, v196, ev196, hf⟩ := ard_e hf
          refine rw_ald hx hb hK hP 4 0 rfl rfl hiv196 ev196 dX3_objection_196 ?_
          obtain ⟨r197, hc197, hf⟩ := bn1_e hf
          refine callRi (va_runV (As := [.int v196]) (rest := []) ⟨hx, hb, hml, hown, hts⟩ (cX3_entryCount_met l dC dI cI m0 m1 m2 m3 m4 m5 mlim mkpt msyn mcn mkd msz mct men mch v196 r197 hc197) (cwV 1 hts gX3_objection_40 rfl rfl rfl (by decide +kernel) ⟨Nat.le_of_ble_eq_true rfl, Nat.le_of_ble_eq_true rfl⟩) (preRV (ci := 3) (q0 := 0) hK hP rfl rfl) rfl rfl hl.1 rfl (lv_room (Nat.le_of_ble_eq_true rfl)) dX3_objection_197 ⟨Nat.le_of_ble_eq_true rfl, Nat.le_of_ble_eq_true rfl⟩) hS hP (fun H locs hP hS => ?_)
          refine lv_if_le (tgt := 208) hx hb dX3_objection_200 (by decide) (fun c200 => ?_) (fun c200 => ?_)
          · have hf := it_t c200 hf
            refine lv_iconst (v := 0) hx hb dX3_objection_208 (by decide) ?_
            cases hf
            exact retI hx hb hr hlocks trivial hS dX3_objection_209
          · have hf := it_f c200 hf
            refine lv_bipush (v := -4) hx hb dX3_objection_203 (by decide) ?_
            refine lv_goto (tgt := 209) hx hb dX3_objection_205 (by decide) ?_
            cases hf
            exact retI hx hb hr hlocks trivial hS dX3_objection_209
      · have hf := it_f c161 hf
        refine lv_bipush (v := -2) hx hb dX3_objection_164 (by decide) ?_
        cases hf
        exact retI hx hb hr hlocks trivial hS dX3_objection_166
  have hf := it_f c1_2 hf
  by_cases c1_3 : x1 = 3
  · have hf := it_t c1_3 hf
    refine lv_tableIn (tgt := 210) hx hb dX3_objection_1 (by rw [c1_3]; decide) (by rw [c1_3]; decide) (off := 209) (by rw [c1_3]; decide) (by decide) ?_
    refine lv_aload_n hx hb dX3_objection_210 rfl (lv_at hl 0 rfl) ?_
    refine lv_iload_n hx hb dX3_objection_211 rfl (lv_at hl 2 rfl) ?_
    obtain ⟨r212, hc212, hf⟩ := bn1_e hf
    refine callRi (va_runV (As := [.int x2]) (rest := []) ⟨hx, hb, hml, hown, hts⟩ (cX3_isDir_met l dC dI cI m0 m1 m2 m3 m4 m5 mlim mkpt msyn mcn mkd msz mct men mch x2 r212 hc212) (cwV 1 hts gX3_objection_36 rfl rfl rfl (by decide +kernel) ⟨Nat.le_of_ble_eq_true rfl, Nat.le_of_ble_eq_true rfl⟩) (preRV (ci := 3) (q0 := 0) hK hP rfl rfl) rfl rfl hl.1 rfl (lv_room (Nat.le_of_ble_eq_true rfl)) dX3_objection_212 ⟨Nat.le_of_ble_eq_true rfl, Nat.le_of_ble_eq_true rfl⟩) hS hP (fun H locs hP hS => ?_)
    refine lv_if_eq (tgt := 241) hx hb dX3_objection_215 (by decide) (fun c215 => ?_) (fun c215 => ?_)
    · have hf := it_t c215 hf
      refine lv_bipush (v := -2) hx hb dX3_objection_241 (by decide) ?_
      cases hf
      exact retI hx hb hr hlocks trivial hS dX3_objection_243
    · have hf := it_f c215 hf
      refine lv_aload_n hx hb dX3_objection_218 rfl (lv_at hl 0 rfl) ?_
      refine lv_iload hx hb dX3_objection_219 (lv_at hl 4 rfl) ?_
      obtain ⟨r221, hc221, hf⟩ := bn1_e hf
      refine callRi (va_runV (As := [.int x4]) (rest := []) ⟨hx, hb, hml, hown, hts⟩ (cX3_isDir_met l dC dI cI m0 m1 m2 m3 m4 m5 mlim mkpt msyn mcn mkd msz mct men mch x4 r221 hc221) (cwV 1 hts gX3_objection_36 rfl rfl rfl (by decide +kernel) ⟨Nat.le_of_ble_eq_true rfl, Nat.le_of_ble_eq_true rfl⟩) (preRV (ci := 3) (q0 := 0) hK hP rfl rfl) rfl rfl hl.1 rfl (lv_room (Nat.le_of_ble_eq_true rfl)) dX3_objection_221 ⟨Nat.le_of_ble_eq_true rfl, Nat.le_of_ble_eq_true rfl⟩) hS hP (fun H locs hP hS => ?_)
      refine lv_if_eq (tgt := 241) hx hb dX3_objection_224 (by decide) (fun c224 => ?_) (fun c224 => ?_)
      · have hf := it_t c224 hf
        refine lv_bipush (v := -2) hx hb dX3_objection_241 (by decide) ?_
        cases hf
        exact retI hx hb hr hlocks trivial hS dX3_objection_243
      · have hf := it_f c224 hf
        refine lv_aload_n hx hb dX3_objection_227 rfl (lv_at hl 0 rfl) ?_
        refine va_get (D := (dC, dI)) (ci := 3) (v := .ref m4) (C := RX3) (T := TX3) (N := 9) hx hb hts (fun w h => mc (inX3 w h)) hown hK hP 0 rfl rfl 4 (by decide) (hts _ (mc q_246)) (fun _ h9 => h9) rfl dX3_objection_228 ?_
        refine lv_bipush (v := 32) hx hb dX3_objection_231 (by decide) ?_
        refine lv_iload_n hx hb dX3_objection_233 rfl (lv_at hl 2 rfl) ?_
        obtain ⟨v234, ev234, hf⟩ := slet_e hf
        refine lv_imul hx hb dX3_objection_234 ?_
        refine rw_nm ev234 ?_
        refine lv_iload_n hx hb dX3_objection_235 rfl (lv_at hl 3 rfl) ?_
        obtain ⟨v236, ev236, hf⟩ := slet_e hf
        refine lv_iadd hx hb dX3_objection_236 ?_
        refine rw_nm ev236 ?_
        obtain ⟨hiv237, v237, ev237, hf⟩ := ard_e hf
        refine rw_ald hx hb hK hP 4 0 rfl rfl hiv237 ev237 dX3_objection_237 ?_
        refine lv_if_ge (tgt := 244) hx hb dX3_objection_238 (by decide) (fun c238 => ?_) (fun c238 => ?_)
        · have hf := it_t c238 hf
          refine lv_aload_n hx hb dX3_objection_244 rfl (lv_at hl 0 rfl) ?_
          refine va_get (D := (dC, dI)) (ci := 3) (v := .ref m4) (C := RX3) (T := TX3) (N := 9) hx hb hts (fun w h => mc (inX3 w h)) hown hK hP 0 rfl rfl 4 (by decide) (hts _ (mc q_246)) (fun _ h9 => h9) rfl dX3_objection_245 ?_
          refine lv_bipush (v := 32) hx hb dX3_objection_248 (by decide) ?_
          refine lv_iload hx hb dX3_objection_250 (lv_at hl 4 rfl) ?_
          obtain ⟨v252, ev252, hf⟩ := slet_e hf
          refine lv_imul hx hb dX3_objection_252 ?_
          refine rw_nm ev252 ?_
          refine lv_iload hx hb dX3_objection_253 (lv_at hl 5 rfl) ?_
          obtain ⟨v255, ev255, hf⟩ := slet_e hf
          refine lv_iadd hx hb dX3_objection_255 ?_
          refine rw_nm ev255 ?_
          obtain ⟨hiv256, v256, ev256, hf⟩ := ard_e hf
          refine rw_ald hx hb hK hP 4 0 rfl rfl hiv256 ev256 dX3_objection_256 ?_
          refine lv_if_lt (tgt := 263) hx hb dX3_objection_257 (by decide) (fun c257 => ?_) (fun c257 => ?_)
          · have hf := it_t c257 hf
            refine lv_aload_n hx hb dX3_objection_263 rfl (lv_at hl 0 rfl) ?_
            refine lv_aload_n hx hb dX3_objection_264 rfl (lv_at hl 0 rfl) ?_
            refine va_get (D := (dC, dI)) (ci := 3) (v := .ref m4) (C := RX3) (T := TX3) (N := 9) hx hb hts (fun w h => mc (inX3 w h)) hown hK hP 0 rfl rfl 4 (by decide) (hts _ (mc q_246)) (fun _ h9 => h9) rfl dX3_objection_265 ?_
            refine lv_bipush (v := 32) hx hb dX3_objection_268 (by decide) ?_
            refine lv_iload_n hx hb dX3_objection_270 rfl (lv_at hl 2 rfl) ?_
            obtain ⟨v271, ev271, hf⟩ := slet_e hf
            refine lv_imul hx hb dX3_objection_271 ?_
            refine rw_nm ev271 ?_
            refine lv_iload_n hx hb dX3_objection_272 rfl (lv_at hl 3 rfl) ?_
            obtain ⟨v273, ev273, hf⟩ := slet_e hf
            refine lv_iadd hx hb dX3_objection_273 ?_
            refine rw_nm ev273 ?_
            obtain ⟨hiv274, v274, ev274, hf⟩ := ard_e hf
            refine rw_ald hx hb hK hP 4 0 rfl rfl hiv274 ev274 dX3_objection_274 ?_
            obtain ⟨r275, hc275, hf⟩ := bn1_e hf
            refine callRi (va_runV (As := [.int v274]) (rest := []) ⟨hx, hb, hml, hown, hts⟩ (cX3_isDir_met l dC dI cI m0 m1 m2 m3 m4 m5 mlim mkpt msyn mcn mkd msz mct men mch v274 r275 hc275) (cwV 1 hts gX3_objection_36 rfl rfl rfl (by decide +kernel) ⟨Nat.le_of_ble_eq_true rfl, Nat.le_of_ble_eq_true rfl⟩) (preRV (ci := 3) (q0 := 0) hK hP rfl rfl) rfl rfl hl.1 rfl (lv_room (Nat.le_of_ble_eq_true rfl)) dX3_objection_275 ⟨Nat.le_of_ble_eq_true rfl, Nat.le_of_ble_eq_true rfl⟩) hS hP (fun H locs hP hS => ?_)
            refine lv_if_eq (tgt := 303) hx hb dX3_objection_278 (by decide) (fun c278 => ?_) (fun c278 => ?_)
            · have hf := it_t c278 hf
              exact wbX3_objection_303 hx hb hml hown hts hr hlocks hK m0 m1 m2 m3 m4 m5 mlim mkpt msyn mcn mkd msz mct men mch r x2 x4 _ _ hP hS _ (lv_sub hl [0, 2, 4] rfl) hf
            · have hf := it_f c278 hf
              refine lv_aload_n hx hb dX3_objection_281 rfl (lv_at hl 0 rfl) ?_
              refine lv_iload hx hb dX3_objection_282 (lv_at hl 4 rfl) ?_
              refine lv_aload_n hx hb dX3_objection_284 rfl (lv_at hl 0 rfl) ?_
              refine va_get (D := (dC, dI)) (ci := 3) (v := .ref m4) (C := RX3) (T := TX3) (N := 9) hx hb hts (fun w h => mc (inX3 w h)) hown hK hP 0 rfl rfl 4 (by decide) (hts _ (mc q_246)) (fun _ h9 => h9) rfl dX3_objection_285 ?_
              refine lv_bipush (v := 32) hx hb dX3_objection_288 (by decide) ?_
              refine lv_iload_n hx hb dX3_objection_290 rfl (lv_at hl 2 rfl) ?_
              obtain ⟨v291, ev291, hf⟩ := slet_e hf
              refine lv_imul hx hb dX3_objection_291 ?_
              refine rw_nm ev291 ?_
              refine lv_iload_n hx hb dX3_objection_292 rfl (lv_at hl 3 rfl) ?_
              obtain ⟨v293, ev293, hf⟩ := slet_e hf
              refine lv_iadd hx hb dX3_objection_293 ?_
              refine rw_nm ev293 ?_
              obtain ⟨hiv294, v294, ev294, hf⟩ := ard_e hf
              refine rw_ald hx hb hK hP 4 0 rfl rfl hiv294 ev294 dX3_objection_294 ?_
              obtain ⟨r295, hc295, hf⟩ := bn1_e hf
              refine callRi (va_runV (As := [.int x4, .int v294]) (rest := []) ⟨hx, hb, hml, hown, hts⟩ (cX3_liesIn_met l dC dI cI m0 m1 m2 m3 m4 m5 mlim mkpt msyn mcn mkd msz mct men mch x4 v294 r295 hc295) (cwV 2 hts gX3_objection_48 rfl rfl rfl (by decide +kernel) ⟨Nat.le_of_ble_eq_true rfl, Nat.le_of_ble_eq_true rfl⟩) (preRV (ci := 3) (q0 := 0) hK hP rfl rfl) rfl rfl hl.1 rfl (lv_room (Nat.le_of_ble_eq_true rfl)) dX3_objection_295 ⟨Nat.le_of_ble_eq_true rfl, Nat.le_of_ble_eq_true rfl⟩) hS hP (fun H locs hP hS => ?_)
              refine lv_if_eq (tgt := 303) hx hb dX3_objection_298 (by decide) (fun c298 => ?_) (fun c298 => ?_)
              · have hf := it_t c298 hf
                exact wbX3_objection_303 hx hb hml hown hts hr hlocks hK m0 m1 m2 m3 m4 m5 mlim mkpt msyn mcn mkd msz mct men mch r x2 x4 _ _ hP hS _ (lv_sub hl [0, 2, 4] rfl) hf
              · have hf := it_f c298 hf
                refine lv_iconst (v := -1) hx hb dX3_objection_301 (by decide) ?_
                cases hf
                exact retI hx hb hr hlocks trivial hS dX3_objection_302
          · have hf := it_f c257 hf
            refine lv_bipush (v := -3) hx hb dX3_objection_260 (by decide) ?_
            cases hf
            exact retI hx hb hr hlocks trivial hS dX3_objection_262
        · have hf := it_f c238 hf
          refine lv_bipush (v := -2) hx hb dX3_objection_241 (by decide) ?_
          cases hf
          exact retI hx hb hr hlocks trivial hS dX3_objection_243
  have hf := it_f c1_3 hf
  have t0 := lv_neT (a := 0) c1_0 (by decide)
  have t1 := lv_neT (a := 1) c1_1 (by decide)
  have t2 := lv_neT (a := 2) c1_2 (by decide)
  have t3 := lv_neT (a := 3) c1_3 (by decide)
  refine lv_tableOut (tgt := 327) hx hb dX3_objection_1 (by omega) (by decide) ?_
  refine lv_aload_n hx hb dX3_objection_327 rfl (lv_at hl 0 rfl) ?_
  refine va_get (D := (dC, dI)) (ci := 3) (v := .ref m1) (C := RX3) (T := TX3) (N := 9) hx hb hts (fun w h => mc (inX3 w h)) hown hK hP 0 rfl rfl 1 (by decide) (hts _ (mc q_243)) (fun _ h9 => h9) rfl dX3_objection_328 ?_
  refine lv_iload_n hx hb dX3_objection_331 rfl (lv_at hl 2 rfl) ?_
  obtain ⟨hiv332, v332, ev332, hf⟩ := ard_e hf
  refine rw_ald hx hb hK hP 1 0 rfl rfl hiv332 ev332 dX3_objection_332 ?_
  refine lv_iconst (v := 1) hx hb dX3_objection_333 (by decide) ?_
  refine lv_icmp_eq (tgt := 340) hx hb dX3_objection_334 (by decide) (fun c334 => ?_) (fun c334 => ?_)
  · have hf := it_t c334 hf
    refine lv_iload_n hx hb dX3_objection_340 rfl (lv_at hl 3 rfl) ?_
    refine lv_aload_n hx hb dX3_objection_341 rfl (lv_at hl 0 rfl) ?_
    refine va_get (D := (dC, dI)) (ci := 3) (v := .ref m2) (C := RX3) (T := TX3) (N := 9) hx hb hts (fun w h => mc (inX3 w h)) hown hK hP 0 rfl rfl 2 (by decide) (hts _ (mc q_244)) (fun _ h9 => h9) rfl dX3_objection_342 ?_
    refine lv_iload_n hx hb dX3_objection_345 rfl (lv_at hl 2 rfl) ?_
    obtain ⟨hiv346, v346, ev346, hf⟩ := ard_e hf
    refine rw_ald hx hb hK hP 2 0 rfl rfl hiv346 ev346 dX3_objection_346 ?_
    refine lv_icmp_le (tgt := 354) hx hb dX3_objection_347 (by decide) (fun c347 => ?_) (fun c347 => ?_)
    · have hf := it_t c347 hf
      refine lv_iconst (v := 0) hx hb dX3_objection_354 (by decide) ?_
      cases hf
      exact retI hx hb hr hlocks trivial hS dX3_objection_355
    · have hf := it_f c347 hf
      refine lv_iconst (v := -1) hx hb dX3_objection_350 (by decide) ?_
      refine lv_goto (tgt := 355) hx hb dX3_objection_351 (by decide) ?_
      cases hf
      exact retI hx hb hr hlocks trivial hS dX3_objection_355
  · have hf := it_f c334 hf
    refine lv_bipush (v := -2) hx hb dX3_objection_337 (by decide) ?_
    cases hf
    exact retI hx hb hr hlocks trivial hS dX3_objection_339
theorem gX3_cost_52 : GoodIn wsX3_cost (wsV RX3 52 RX3 yX3_links wsX3_links) := gIn (memV q_279 q_280 q_357 q_5 q_281)
set_option maxHeartbeats 4000000 in
set_option maxRecDepth 100000 in
theorem cX3_cost_met (l : Launch) (dC : Nat → ClassId) (dI : Nat → Nat → Nat) (cI : ClassId) (m0 m1 m2 m3 m4 m5 : Nat) (mlim : Int32) (mkpt : Int32) (msyn : Int32) (mcn : Int32) (mkd : Nat → Int32) (msz : Nat → Int32) (mct : Nat → Int32) (men : Nat → Int32) (mch : Nat → Int32) (x1 : Int32) (x2 : Int32) (x3 : Int32) (x4 : Int32) (r : Int32) (hf : fX3_cost x1 x2 x3 x4 mkd men = some r) : Met l yX3_cost wsX3_cost ({ frames := 1, cells := 0, slots := 0, locals := 23 } : Room) (pcR [.ref m0, .int x1, .int x2, .int x3, .int x4] (dC, dI) vwCl [(cI, .int)] (wX3 cI m0 m1 m2 m3 m4 m5 mlim mkpt msyn mcn mkd msz mct men mch)) (qI r pT aN) 0 0 aN := by
  refine Met.ofW (cc := cX3_cost) (maxL := 5) (ret := (some .int)) (by decide) rfl ?_
  intro p e s m args below meth c s₁ B hml hv
  obtain ⟨rfl, hP, hK⟩ := hv
  have hx := B.exec
  have hb := B.bytes
  have hr := B.returns
  have hts := atoms_spec (ws := wsX3_cost) B.pre
  have hown : s.vm.findClass RX3 = some m.cls := findClass_of_methodNamed B.named
  have hlocks := B.notSynchronized
  have hS : va_S aN s.heap s.heap [] := va_S.rf
  have hl := lv_entry ([.ref m0, .int x1, .int x2, .int x3, .int x4]) (n := 5) (Nat.le_of_ble_eq_true rfl)
  rw [lg_entry_eq]
  generalize (lg_sl ([.ref m0, .int x1, .int x2, .int x3, .int x4]) ++ List.replicate (5 - (lg_sl ([.ref m0, .int x1, .int x2, .int x3, .int x4])).length) Slot.unset).toArray = ls at hl ⊢
  have hl : lv_has ls 5 [(0, .ref m0), (1, .int x1), (2, .int x2), (3, .int x3), (4, .int x4)] := hl
  unfold fX3_cost at hf
  refine lv_iload_n hx hb dX3_cost_0 rfl (lv_at hl 1 rfl) ?_
  refine lv_iconst (v := 2) hx hb dX3_cost_1 (by decide) ?_
  refine lv_icmp_ne (tgt := 52) hx hb dX3_cost_2 (by decide) (fun c2 => ?_) (fun c2 => ?_)
  · have hf := it_f c2 hf
    refine lv_iload_n hx hb dX3_cost_52 rfl (lv_at hl 1 rfl) ?_
    refine lv_iconst (v := 3) hx hb dX3_cost_53 (by decide) ?_
    refine lv_icmp_ne (tgt := 69) hx hb dX3_cost_54 (by decide) (fun c54 => ?_) (fun c54 => ?_)
    · have hf := it_f c54 hf
      refine lv_iload_n hx hb dX3_cost_69 rfl (lv_at hl 1 rfl) ?_
      refine lv_iconst (v := 5) hx hb dX3_cost_70 (by decide) ?_
      refine lv_icmp_ne (tgt := 78) hx hb dX3_cost_71 (by decide) (fun c71 => ?_) (fun c71 => ?_)
      · have hf := it_f c71 hf
        refine lv_iconst (v := 3) hx hb dX3_cost_78 (by decide) ?_
        cases hf
        exact retI hx hb hr hlocks trivial hS dX3_cost_79
      · have hf := it_t c71 hf
        refine lv_iconst (v := 2) hx hb dX3_cost_74 (by decide) ?_
        refine lv_goto (tgt := 79) hx hb dX3_cost_75 (by decide) ?_
        cases hf
        exact retI hx hb hr hlocks trivial hS dX3_cost_79
    · have hf := it_t c54 hf
      refine lv_iload_n hx hb dX3_cost_57 rfl (lv_at hl 2 rfl) ?_
      refine lv_iload hx hb dX3_cost_58 (lv_at hl 4 rfl) ?_
      refine lv_icmp_ne (tgt := 67) hx hb dX3_cost_60 (by decide) (fun c60 => ?_) (fun c60 => ?_)
      · have hf := it_f c60 hf
        refine lv_iconst (v := 3) hx hb dX3_cost_67 (by decide) ?_
        cases hf
        exact retI hx hb hr hlocks trivial hS dX3_cost_68
      · have hf := it_t c60 hf
        refine lv_iconst (v := 2) hx hb dX3_cost_63 (by decide) ?_
        refine lv_goto (tgt := 68) hx hb dX3_cost_64 (by decide) ?_
        cases hf
        exact retI hx hb hr hlocks trivial hS dX3_cost_68
  · have hf := it_t c2 hf
    refine lv_iconst (v := 2) hx hb dX3_cost_5 (by decide) ?_
    refine lv_aload_n hx hb dX3_cost_6 rfl (lv_at hl 0 rfl) ?_
    refine va_get (D := (dC, dI)) (ci := 3) (v := .ref m1) (C := RX3) (T := TX3) (N := 9) hx hb hts (fun w h => mc (inX3 w h)) hown hK hP 0 rfl rfl 1 (by decide) (hts _ (mc q_243)) (fun _ h9 => h9) rfl dX3_cost_7 ?_
    refine lv_aload_n hx hb dX3_cost_10 rfl (lv_at hl 0 rfl) ?_
    refine va_get (D := (dC, dI)) (ci := 3) (v := .ref m4) (C := RX3) (T := TX3) (N := 9) hx hb hts (fun w h => mc (inX3 w h)) hown hK hP 0 rfl rfl 4 (by decide) (hts _ (mc q_246)) (fun _ h9 => h9) rfl dX3_cost_11 ?_
    refine lv_bipush (v := 32) hx hb dX3_cost_14 (by decide) ?_
    refine lv_iload_n hx hb dX3_cost_16 rfl (lv_at hl 2 rfl) ?_
    obtain ⟨v17, ev17, hf⟩ := slet_e hf
    refine lv_imul hx hb dX3_cost_17 ?_
    refine rw_nm ev17 ?_
    refine lv_iload_n hx hb dX3_cost_18 rfl (lv_at hl 3 rfl) ?_
    obtain ⟨v19, ev19, hf⟩ := slet_e hf
    refine lv_iadd hx hb dX3_cost_19 ?_
    refine rw_nm ev19 ?_
    obtain ⟨hiv20, v20, ev20, hf⟩ := ard_e hf
    refine rw_ald hx hb hK hP 4 0 rfl rfl hiv20 ev20 dX3_cost_20 ?_
    obtain ⟨hiv21, v21, ev21, hf⟩ := ard_e hf
    refine rw_ald hx hb hK hP 1 0 rfl rfl hiv21 ev21 dX3_cost_21 ?_
    refine lv_iconst (v := 1) hx hb dX3_cost_22 (by decide) ?_
    refine lv_icmp_ne (tgt := 49) hx hb dX3_cost_23 (by decide) (fun c23 => ?_) (fun c23 => ?_)
    · have hf := it_f c23 hf
      refine lv_iconst (v := 0) hx hb dX3_cost_49 (by decide) ?_
      obtain ⟨v50, ev50, hf⟩ := slet_e hf
      refine lv_iadd hx hb dX3_cost_50 ?_
      refine rw_nm ev50 ?_
      cases hf
      exact retI hx hb hr hlocks trivial hS dX3_cost_51
    · have hf := it_t c23 hf
      refine lv_aload_n hx hb dX3_cost_26 rfl (lv_at hl 0 rfl) ?_
      refine lv_aload_n hx hb dX3_cost_27 rfl (lv_at hl 0 rfl) ?_
      refine va_get (D := (dC, dI)) (ci := 3) (v := .ref m4) (C := RX3) (T := TX3) (N := 9) hx hb hts (fun w h => mc (inX3 w h)) hown hK hP 0 rfl rfl 4 (by decide) (hts _ (mc q_246)) (fun _ h9 => h9) rfl dX3_cost_28 ?_
      refine lv_bipush (v := 32) hx hb dX3_cost_31 (by decide) ?_
      refine lv_iload_n hx hb dX3_cost_33 rfl (lv_at hl 2 rfl) ?_
      obtain ⟨v34, ev34, hf⟩ := slet_e hf
      refine lv_imul hx hb dX3_cost_34 ?_
      refine rw_nm ev34 ?_
      refine lv_iload_n hx hb dX3_cost_35 rfl (lv_at hl 3 rfl) ?_
      obtain ⟨v36, ev36, hf⟩ := slet_e hf
      refine lv_iadd hx hb dX3_cost_36 ?_
      refine rw_nm ev36 ?_
      obtain ⟨hiv37, v37, ev37, hf⟩ := ard_e hf
      refine rw_ald hx hb hK hP 4 0 rfl rfl hiv37 ev37 dX3_cost_37 ?_
      obtain ⟨r38, hc38, hf⟩ := bn1_e hf
      refine callRi (va_runV (As := [.int v37]) (rest := [.int 2]) ⟨hx, hb, hml, hown, hts⟩ (cX3_links_met l dC dI cI m0 m1 m2 m3 m4 m5 mlim mkpt msyn mcn mkd msz mct men mch v37 r38 hc38) (cwV 1 hts gX3_cost_52 rfl rfl rfl (by decide +kernel) ⟨Nat.le_of_ble_eq_true rfl, Nat.le_of_ble_eq_true rfl⟩) (preRV (ci := 3) (q0 := 0) hK hP rfl rfl) rfl rfl hl.1 rfl (lv_room (Nat.le_of_ble_eq_true rfl)) dX3_cost_38 ⟨Nat.le_of_ble_eq_true rfl, Nat.le_of_ble_eq_true rfl⟩) hS hP (fun H locs hP hS => ?_)
      refine lv_iconst (v := 1) hx hb dX3_cost_41 (by decide) ?_
      refine lv_icmp_le (tgt := 49) hx hb dX3_cost_42 (by decide) (fun c42 => ?_) (fun c42 => ?_)
      · have hf := it_t c42 hf
        refine lv_iconst (v := 0) hx hb dX3_cost_49 (by decide) ?_
        obtain ⟨v50, ev50, hf⟩ := slet_e hf
        refine lv_iadd hx hb dX3_cost_50 ?_
        refine rw_nm ev50 ?_
        cases hf
        exact retI hx hb hr hlocks trivial hS dX3_cost_51
      · have hf := it_f c42 hf
        refine lv_iconst (v := 1) hx hb dX3_cost_45 (by decide) ?_
        refine lv_goto (tgt := 50) hx hb dX3_cost_46 (by decide) ?_
        obtain ⟨v50, ev50, hf⟩ := slet_e hf
        refine lv_iadd hx hb dX3_cost_50 ?_
        refine rw_nm ev50 ?_
        cases hf
        exact retI hx hb hr hlocks trivial hS dX3_cost_51
theorem gX3_perform_55 : GoodIn wsX3_perform (wsV RX3 55 RX3 yX3_leastAbsent wsX3_leastAbsent) := gIn (memV q_295 q_296 q_361 q_5 q_297)
theorem gX3_perform_52 : GoodIn wsX3_perform (wsV RX3 52 RX3 yX3_links wsX3_links) := gIn (memV q_279 q_280 q_357 q_5 q_281)
set_option maxHeartbeats 4000000 in
set_option maxRecDepth 100000 in
theorem cX3_perform_met (l : Launch) (dC : Nat → ClassId) (dI : Nat → Nat → Nat) (cI : ClassId) (m0 m1 m2 m3 m4 m5 : Nat) (mlim : Int32) (mkpt : Int32) (msyn : Int32) (mcn : Int32) (mkd : Nat → Int32) (msz : Nat → Int32) (mct : Nat → Int32) (men : Nat → Int32) (mch : Nat → Int32) (x1 : Int32) (x2 : Int32) (x3 : Int32) (x4 : Int32) (x5 : Int32) (r : Int32) (mkd_o : Nat → Int32) (msz_o : Nat → Int32) (mct_o : Nat → Int32) (men_o : Nat → Int32) (hf : fX3_perform x1 x2 x3 x4 x5 mkd msz mct men = some (r, mkd_o, msz_o, mct_o, men_o)) : Met l yX3_perform wsX3_perform ({ frames := 1, cells := 0, slots := 0, locals := 23 } : Room) (pcW [.ref m0, .int x1, .int x2, .int x3, .int x4, .int x5] (dC, dI) vwCl [(cI, .int)] (wX3 cI m0 m1 m2 m3 m4 m5 mlim mkpt msyn mcn mkd msz mct men mch)) (qI r (va_P (dC, dI) vwCl (wX3 cI m0 m1 m2 m3 m4 m5 mlim mkpt msyn mcn mkd_o msz_o mct_o men_o mch)) (inA [m0, m1, m2, m3, m4, m5])) 0 0 (inA [m0, m1, m2, m3, m4, m5]) := by
  refine Met.ofW (cc := cX3_perform) (maxL := 7) (ret := (some .int)) (by decide) rfl ?_
  intro p e s m args below meth c s₁ B hml hv
  obtain ⟨rfl, hP, hK, hD0⟩ := hv
  have hx := B.exec
  have hb := B.bytes
  have hr := B.returns
  have hts := atoms_spec (ws := wsX3_perform) B.pre
  have hown : s.vm.findClass RX3 = some m.cls := findClass_of_methodNamed B.named
  have hlocks := B.notSynchronized
  have hD := my_self (as := [m0, m1, m2, m3, m4, m5]) hD0 rfl
  have hS : va_S (inA [m0, m1, m2, m3, m4, m5]) s.heap s.heap [] := va_S.rf
  have hl := lv_entry ([.ref m0, .int x1, .int x2, .int x3, .int x4, .int x5]) (n := 7) (Nat.le_of_ble_eq_true rfl)
  rw [lg_entry_eq]
  generalize (lg_sl ([.ref m0, .int x1, .int x2, .int x3, .int x4, .int x5]) ++ List.replicate (7 - (lg_sl ([.ref m0, .int x1, .int x2, .int x3, .int x4, .int x5])).length) Slot.unset).toArray = ls at hl ⊢
  have hl : lv_has ls 7 [(0, .ref m0), (1, .int x1), (2, .int x2), (3, .int x3), (4, .int x4), (5, .int x5)] := hl
  unfold fX3_perform at hf
  refine lv_iconst (v := 0) hx hb dX3_perform_0 (by decide) ?_
  refine lv_istore (lv' := [(6, .int 0), (0, .ref m0), (1, .int x1), (2, .int x2), (3, .int x3), (4, .int x4), (5, .int x5)]) hx hb dX3_perform_1 hl (by decide) rfl (fun ls hl => ?_)
  refine lv_iload_n hx hb dX3_perform_3 rfl (lv_at hl 2 rfl) ?_
  by_cases c4_0 : x1 = 0
  · have hf := it_t c4_0 hf
    refine lv_tableIn (tgt := 40) hx hb dX3_perform_4 (by rw [c4_0]; decide) (by rw [c4_0]; decide) (off := 36) (by rw [c4_0]; decide) (by decide) ?_
    refine lv_aload_n hx hb dX3_perform_40 rfl (lv_at hl 1 rfl) ?_
    obtain ⟨r41, hc41, hf⟩ := bn1_e hf
    refine callRi (va_runV (As := []) (rest := []) ⟨hx, hb, hml, hown, hts⟩ (cX3_leastAbsent_met l dC dI cI m0 m1 m2 m3 m4 m5 mlim mkpt msyn mcn mkd msz mct men mch r41 hc41) (cwV 0 hts gX3_perform_55 rfl rfl rfl (by decide +kernel) ⟨Nat.le_of_ble_eq_true rfl, Nat.le_of_ble_eq_true rfl⟩) (preRV (ci := 3) (q0 := 0) hK hP rfl rfl) rfl rfl hl.1 rfl (lv_room (Nat.le_of_ble_eq_true rfl)) dX3_perform_41 ⟨Nat.le_of_ble_eq_true rfl, Nat.le_of_ble_eq_true rfl⟩) hS hP (fun H locs hP hS => ?_)
    refine lv_istore (lv' := [(6, .int r41), (0, .ref m0), (1, .int x1), (2, .int x2), (3, .int x3), (4, .int x4), (5, .int x5)]) hx hb dX3_perform_44 hl (by decide) rfl (fun ls hl => ?_)
    refine lv_aload_n hx hb dX3_perform_46 rfl (lv_at hl 1 rfl) ?_
    refine va_get (D := (dC, dI)) (ci := 3) (v := .ref m1) (C := RX3) (T := TX3) (N := 9) hx hb hts (fun w h => mc (inX3 w h)) hown hK hP 0 rfl rfl 1 (by decide) (hts _ (mc q_243)) (fun _ h9 => h9) rfl dX3_perform_47 ?_
    refine lv_iload hx hb dX3_perform_50 (lv_at hl 0 rfl) ?_
    refine lv_iload hx hb dX3_perform_52 (lv_at hl 5 rfl) ?_
    obtain ⟨himkd_54, mkd_54, emkd_54, hf⟩ := awr_e hf
    refine rw_ast (ws' := (wX3 cI m0 m1 m2 m3 m4 m5 mlim mkpt msyn mcn mkd_54 msz mct men mch)) hx hb hK hP hD hS 1 0 rfl rfl himkd_54 emkd_54 rfl dX3_perform_54 (fun H locs hP hD hS => ?_)
    refine lv_aload_n hx hb dX3_perform_55 rfl (lv_at hl 1 rfl) ?_
    refine va_get (D := (dC, dI)) (ci := 3) (v := .ref m2) (C := RX3) (T := TX3) (N := 9) hx hb hts (fun w h => mc (inX3 w h)) hown hK hP 0 rfl rfl 2 (by decide) (hts _ (mc q_244)) (fun _ h9 => h9) rfl dX3_perform_56 ?_
    refine lv_iload hx hb dX3_perform_59 (lv_at hl 0 rfl) ?_
    refine lv_iconst (v := 0) hx hb dX3_perform_61 (by decide) ?_
    obtain ⟨himsz_62, msz_62, emsz_62, hf⟩ := awr_e hf
    refine rw_ast (ws' := (wX3 cI m0 m1 m2 m3 m4 m5 mlim mkpt msyn mcn mkd_54 msz_62 mct men mch)) hx hb hK hP hD hS 2 0 rfl rfl himsz_62 emsz_62 rfl dX3_perform_62 (fun H locs hP hD hS => ?_)
    refine lv_aload_n hx hb dX3_perform_63 rfl (lv_at hl 1 rfl) ?_
    refine va_get (D := (dC, dI)) (ci := 3) (v := .ref m4) (C := RX3) (T := TX3) (N := 9) hx hb hts (fun w h => mc (inX3 w h)) hown hK hP 0 rfl rfl 4 (by decide) (hts _ (mc q_246)) (fun _ h9 => h9) rfl dX3_perform_64 ?_
    refine lv_bipush (v := 32) hx hb dX3_perform_67 (by decide) ?_
    refine lv_iload_n hx hb dX3_perform_69 rfl (lv_at hl 3 rfl) ?_
    obtain ⟨v70, ev70, hf⟩ := slet_e hf
    refine lv_imul hx hb dX3_perform_70 ?_
    refine rw_nm ev70 ?_
    refine lv_iload_n hx hb dX3_perform_71 rfl (lv_at hl 4 rfl) ?_
    obtain ⟨v72, ev72, hf⟩ := slet_e hf
    refine lv_iadd hx hb dX3_perform_72 ?_
    refine rw_nm ev72 ?_
    refine lv_iload hx hb dX3_perform_73 (lv_at hl 0 rfl) ?_
    obtain ⟨himen_75, men_75, emen_75, hf⟩ := awr_e hf
    refine rw_ast (ws' := (wX3 cI m0 m1 m2 m3 m4 m5 mlim mkpt msyn mcn mkd_54 msz_62 mct men_75 mch)) hx hb hK hP hD hS 4 0 rfl rfl himen_75 emen_75 rfl dX3_perform_75 (fun H locs hP hD hS => ?_)
    refine lv_iload hx hb dX3_perform_76 (lv_at hl 0 rfl) ?_
    cases hf
    exact retI hx hb hr hlocks hP hS dX3_perform_78
  have hf := it_f c4_0 hf
  by_cases c4_1 : x1 = 1
  · have hf := it_t c4_1 hf
    refine lv_tableIn (tgt := 79) hx hb dX3_perform_4 (by rw [c4_1]; decide) (by rw [c4_1]; decide) (off := 75) (by rw [c4_1]; decide) (by decide) ?_
    refine lv_aload_n hx hb dX3_perform_79 rfl (lv_at hl 1 rfl) ?_
    refine va_get (D := (dC, dI)) (ci := 3) (v := .ref m4) (C := RX3) (T := TX3) (N := 9) hx hb hts (fun w h => mc (inX3 w h)) hown hK hP 0 rfl rfl 4 (by decide) (hts _ (mc q_246)) (fun _ h9 => h9) rfl dX3_perform_80 ?_
    refine lv_bipush (v := 32) hx hb dX3_perform_83 (by decide) ?_
    refine lv_iload_n hx hb dX3_perform_85 rfl (lv_at hl 3 rfl) ?_
    obtain ⟨v86, ev86, hf⟩ := slet_e hf
    refine lv_imul hx hb dX3_perform_86 ?_
    refine rw_nm ev86 ?_
    refine lv_iload_n hx hb dX3_perform_87 rfl (lv_at hl 4 rfl) ?_
    obtain ⟨v88, ev88, hf⟩ := slet_e hf
    refine lv_iadd hx hb dX3_perform_88 ?_
    refine rw_nm ev88 ?_
    refine lv_iload hx hb dX3_perform_89 (lv_at hl 5 rfl) ?_
    obtain ⟨himen_91, men_91, emen_91, hf⟩ := awr_e hf
    refine rw_ast (ws' := (wX3 cI m0 m1 m2 m3 m4 m5 mlim mkpt msyn mcn mkd msz mct men_91 mch)) hx hb hK hP hD hS 4 0 rfl rfl himen_91 emen_91 rfl dX3_perform_91 (fun H locs hP hD hS => ?_)
    refine lv_iconst (v := 0) hx hb dX3_perform_92 (by decide) ?_
    cases hf
    exact retI hx hb hr hlocks hP hS dX3_perform_93
  have hf := it_f c4_1 hf
  by_cases c4_2 : x1 = 2
  · have hf := it_t c4_2 hf
    refine lv_tableIn (tgt := 94) hx hb dX3_perform_4 (by rw [c4_2]; decide) (by rw [c4_2]; decide) (off := 90) (by rw [c4_2]; decide) (by decide) ?_
    refine lv_aload_n hx hb dX3_perform_94 rfl (lv_at hl 1 rfl) ?_
    refine va_get (D := (dC, dI)) (ci := 3) (v := .ref m4) (C := RX3) (T := TX3) (N := 9) hx hb hts (fun w h => mc (inX3 w h)) hown hK hP 0 rfl rfl 4 (by decide) (hts _ (mc q_246)) (fun _ h9 => h9) rfl dX3_perform_95 ?_
    refine lv_bipush (v := 32) hx hb dX3_perform_98 (by decide) ?_
    refine lv_iload_n hx hb dX3_perform_100 rfl (lv_at hl 3 rfl) ?_
    obtain ⟨v101, ev101, hf⟩ := slet_e hf
    refine lv_imul hx hb dX3_perform_101 ?_
    refine rw_nm ev101 ?_
    refine lv_iload_n hx hb dX3_perform_102 rfl (lv_at hl 4 rfl) ?_
    obtain ⟨v103, ev103, hf⟩ := slet_e hf
    refine lv_iadd hx hb dX3_perform_103 ?_
    refine rw_nm ev103 ?_
    obtain ⟨hiv104, v104, ev104, hf⟩ := ard_e hf
    refine rw_ald hx hb hK hP 4 0 rfl rfl hiv104 ev104 dX3_perform_104 ?_
    refine lv_istore (lv' := [(6, .int v104), (0, .ref m0), (1, .int x1), (2, .int x2), (3, .int x3), (4, .int x4), (5, .int x5)]) hx hb dX3_perform_105 hl (by decide) rfl (fun ls hl => ?_)
    refine lv_aload_n hx hb dX3_perform_107 rfl (lv_at hl 1 rfl) ?_
    refine va_get (D := (dC, dI)) (ci := 3) (v := .ref m4) (C := RX3) (T := TX3) (N := 9) hx hb hts (fun w h => mc (inX3 w h)) hown hK hP 0 rfl rfl 4 (by decide) (hts _ (mc q_246)) (fun _ h9 => h9) rfl dX3_perform_108 ?_
    refine lv_bipush (v := 32) hx hb dX3_perform_111 (by decide) ?_
    refine lv_iload_n hx hb dX3_perform_113 rfl (lv_at hl 3 rfl) ?_
    obtain ⟨v114, ev114, hf⟩ := slet_e hf
    refine lv_imul hx hb dX3_perform_114 ?_
    refine rw_nm ev114 ?_
    refine lv_iload_n hx hb dX3_perform_115 rfl (lv_at hl 4 rfl) ?_
    obtain ⟨v116, ev116, hf⟩ := slet_e hf
    refine lv_iadd hx hb dX3_perform_116 ?_
    refine rw_nm ev116 ?_
    refine lv_iconst (v := -1) hx hb dX3_perform_117 (by decide) ?_
    obtain ⟨himen_118, men_118, emen_118, hf⟩ := awr_e hf
    refine rw_ast (ws' := (wX3 cI m0 m1 m2 m3 m4 m5 mlim mkpt msyn mcn mkd msz mct men_118 mch)) hx hb hK hP hD hS 4 0 rfl rfl himen_118 emen_118 rfl dX3_perform_118 (fun H locs hP hD hS => ?_)
    refine lv_aload_n hx hb dX3_perform_119 rfl (lv_at hl 1 rfl) ?_
    refine lv_iload hx hb dX3_perform_120 (lv_at hl 0 rfl) ?_
    obtain ⟨r122, hc122, hf⟩ := bn1_e hf
    refine callRi (va_runV (As := [.int v104]) (rest := []) ⟨hx, hb, hml, hown, hts⟩ (cX3_links_met l dC dI cI m0 m1 m2 m3 m4 m5 mlim mkpt msyn mcn mkd msz mct men_118 mch v104 r122 hc122) (cwV 1 hts gX3_perform_52 rfl rfl rfl (by decide +kernel) ⟨Nat.le_of_ble_eq_true rfl, Nat.le_of_ble_eq_true rfl⟩) (preRV (ci := 3) (q0 := 0) hK hP rfl rfl) rfl rfl hl.1 rfl (lv_room (Nat.le_of_ble_eq_true rfl)) dX3_perform_122 ⟨Nat.le_of_ble_eq_true rfl, Nat.le_of_ble_eq_true rfl⟩) hS hP (fun H locs hP hS => ?_)
    refine lv_if_ne (tgt := 136) hx hb dX3_perform_125 (by decide) (fun c125 => ?_) (fun c125 => ?_)
    · have hf := it_f c125 hf
      refine lv_iconst (v := 0) hx hb dX3_perform_136 (by decide) ?_
      cases hf
      exact retI hx hb hr hlocks hP hS dX3_perform_137
    · have hf := it_t c125 hf
      refine lv_aload_n hx hb dX3_perform_128 rfl (lv_at hl 1 rfl) ?_
      refine va_get (D := (dC, dI)) (ci := 3) (v := .ref m1) (C := RX3) (T := TX3) (N := 9) hx hb hts (fun w h => mc (inX3 w h)) hown hK hP 0 rfl rfl 1 (by decide) (hts _ (mc q_243)) (fun _ h9 => h9) rfl dX3_perform_129 ?_
      refine lv_iload hx hb dX3_perform_132 (lv_at hl 0 rfl) ?_
      refine lv_iconst (v := 0) hx hb dX3_perform_134 (by decide) ?_
      obtain ⟨himkd_135, mkd_135, emkd_135, hf⟩ := awr_e hf
      refine rw_ast (ws' := (wX3 cI m0 m1 m2 m3 m4 m5 mlim mkpt msyn mcn mkd_135 msz mct men_118 mch)) hx hb hK hP hD hS 1 0 rfl rfl himkd_135 emkd_135 rfl dX3_perform_135 (fun H locs hP hD hS => ?_)
      refine lv_iconst (v := 0) hx hb dX3_perform_136 (by decide) ?_
      cases hf
      exact retI hx hb hr hlocks hP hS dX3_perform_137
  have hf := it_f c4_2 hf
  by_cases c4_3 : x1 = 3
  · have hf := it_t c4_3 hf
    refine lv_tableIn (tgt := 138) hx hb dX3_perform_4 (by rw [c4_3]; decide) (by rw [c4_3]; decide) (off := 134) (by rw [c4_3]; decide) (by decide) ?_
    refine lv_aload_n hx hb dX3_perform_138 rfl (lv_at hl 1 rfl) ?_
    refine va_get (D := (dC, dI)) (ci := 3) (v := .ref m4) (C := RX3) (T := TX3) (N := 9) hx hb hts (fun w h => mc (inX3 w h)) hown hK hP 0 rfl rfl 4 (by decide) (hts _ (mc q_246)) (fun _ h9 => h9) rfl dX3_perform_139 ?_
    refine lv_bipush (v := 32) hx hb dX3_perform_142 (by decide) ?_
    refine lv_iload_n hx hb dX3_perform_144 rfl (lv_at hl 3 rfl) ?_
    obtain ⟨v145, ev145, hf⟩ := slet_e hf
    refine lv_imul hx hb dX3_perform_145 ?_
    refine rw_nm ev145 ?_
    refine lv_iload_n hx hb dX3_perform_146 rfl (lv_at hl 4 rfl) ?_
    obtain ⟨v147, ev147, hf⟩ := slet_e hf
    refine lv_iadd hx hb dX3_perform_147 ?_
    refine rw_nm ev147 ?_
    obtain ⟨hiv148, v148, ev148, hf⟩ := ard_e hf
    refine rw_ald hx hb hK hP 4 0 rfl rfl hiv148 ev148 dX3_perform_148 ?_
    refine lv_istore (lv' := [(6, .int v148), (0, .ref m0), (1, .int x1), (2, .int x2), (3, .int x3), (4, .int x4), (5, .int x5)]) hx hb dX3_perform_149 hl (by decide) rfl (fun ls hl => ?_)
    refine lv_aload_n hx hb dX3_perform_151 rfl (lv_at hl 1 rfl) ?_
    refine va_get (D := (dC, dI)) (ci := 3) (v := .ref m4) (C := RX3) (T := TX3) (N := 9) hx hb hts (fun w h => mc (inX3 w h)) hown hK hP 0 rfl rfl 4 (by decide) (hts _ (mc q_246)) (fun _ h9 => h9) rfl dX3_perform_152 ?_
    refine lv_bipush (v := 32) hx hb dX3_perform_155 (by decide) ?_
    refine lv_iload_n hx hb dX3_perform_157 rfl (lv_at hl 3 rfl) ?_
    obtain ⟨v158, ev158, hf⟩ := slet_e hf
    refine lv_imul hx hb dX3_perform_158 ?_
    refine rw_nm ev158 ?_
    refine lv_iload_n hx hb dX3_perform_159 rfl (lv_at hl 4 rfl) ?_
    obtain ⟨v160, ev160, hf⟩ := slet_e hf
    refine lv_iadd hx hb dX3_perform_160 ?_
    refine rw_nm ev160 ?_
    refine lv_iconst (v := -1) hx hb dX3_perform_161 (by decide) ?_
    obtain ⟨himen_162, men_162, emen_162, hf⟩ := awr_e hf
    refine rw_ast (ws' := (wX3 cI m0 m1 m2 m3 m4 m5 mlim mkpt msyn mcn mkd msz mct men_162 mch)) hx hb hK hP hD hS 4 0 rfl rfl himen_162 emen_162 rfl dX3_perform_162 (fun H locs hP hD hS => ?_)
    refine lv_aload_n hx hb dX3_perform_163 rfl (lv_at hl 1 rfl) ?_
    refine va_get (D := (dC, dI)) (ci := 3) (v := .ref m4) (C := RX3) (T := TX3) (N := 9) hx hb hts (fun w h => mc (inX3 w h)) hown hK hP 0 rfl rfl 4 (by decide) (hts _ (mc q_246)) (fun _ h9 => h9) rfl dX3_perform_164 ?_
    refine lv_bipush (v := 32) hx hb dX3_perform_167 (by decide) ?_
    refine lv_iload hx hb dX3_perform_169 (lv_at hl 5 rfl) ?_
    obtain ⟨v171, ev171, hf⟩ := slet_e hf
    refine lv_imul hx hb dX3_perform_171 ?_
    refine rw_nm ev171 ?_
    refine lv_iload hx hb dX3_perform_172 (lv_at hl 6 rfl) ?_
    obtain ⟨v174, ev174, hf⟩ := slet_e hf
    refine lv_iadd hx hb dX3_perform_174 ?_
    refine rw_nm ev174 ?_
    refine lv_iload hx hb dX3_perform_175 (lv_at hl 0 rfl) ?_
    obtain ⟨himen_177, men_177, emen_177, hf⟩ := awr_e hf
    refine rw_ast (ws' := (wX3 cI m0 m1 m2 m3 m4 m5 mlim mkpt msyn mcn mkd msz mct men_177 mch)) hx hb hK hP hD hS 4 0 rfl rfl himen_177 emen_177 rfl dX3_perform_177 (fun H locs hP hD hS => ?_)
    refine lv_iconst (v := 0) hx hb dX3_perform_178 (by decide) ?_
    cases hf
    exact retI hx hb hr hlocks hP hS dX3_perform_179
  have hf := it_f c4_3 hf
  by_cases c4_4 : x1 = 4
  · have hf := it_t c4_4 hf
    refine lv_tableIn (tgt := 180) hx hb dX3_perform_4 (by rw [c4_4]; decide) (by rw [c4_4]; decide) (off := 176) (by rw [c4_4]; decide) (by decide) ?_
    refine lv_aload_n hx hb dX3_perform_180 rfl (lv_at hl 1 rfl) ?_
    refine va_get (D := (dC, dI)) (ci := 3) (v := .ref m3) (C := RX3) (T := TX3) (N := 9) hx hb hts (fun w h => mc (inX3 w h)) hown hK hP 0 rfl rfl 3 (by decide) (hts _ (mc q_245)) (fun _ h9 => h9) rfl dX3_perform_181 ?_
    refine lv_bipush (v := 8) hx hb dX3_perform_184 (by decide) ?_
    refine lv_iload_n hx hb dX3_perform_186 rfl (lv_at hl 3 rfl) ?_
    obtain ⟨v187, ev187, hf⟩ := slet_e hf
    refine lv_imul hx hb dX3_perform_187 ?_
    refine rw_nm ev187 ?_
    refine lv_iload_n hx hb dX3_perform_188 rfl (lv_at hl 4 rfl) ?_
    obtain ⟨v189, ev189, hf⟩ := slet_e hf
    refine lv_iadd hx hb dX3_perform_189 ?_
    refine rw_nm ev189 ?_
    refine lv_iload hx hb dX3_perform_190 (lv_at hl 5 rfl) ?_
    obtain ⟨himct_192, mct_192, emct_192, hf⟩ := awr_e hf
    refine rw_ast (ws' := (wX3 cI m0 m1 m2 m3 m4 m5 mlim mkpt msyn mcn mkd msz mct_192 men mch)) hx hb hK hP hD hS 3 0 rfl rfl himct_192 emct_192 rfl dX3_perform_192 (fun H locs hP hD hS => ?_)
    refine lv_iload_n hx hb dX3_perform_193 rfl (lv_at hl 4 rfl) ?_
    refine lv_aload_n hx hb dX3_perform_194 rfl (lv_at hl 1 rfl) ?_
    refine va_get (D := (dC, dI)) (ci := 3) (v := .ref m2) (C := RX3) (T := TX3) (N := 9) hx hb hts (fun w h => mc (inX3 w h)) hown hK hP 0 rfl rfl 2 (by decide) (hts _ (mc q_244)) (fun _ h9 => h9) rfl dX3_perform_195 ?_
    refine lv_iload_n hx hb dX3_perform_198 rfl (lv_at hl 3 rfl) ?_
    obtain ⟨hiv199, v199, ev199, hf⟩ := ard_e hf
    refine rw_ald hx hb hK hP 2 0 rfl rfl hiv199 ev199 dX3_perform_199 ?_
    refine lv_icmp_ne (tgt := 213) hx hb dX3_perform_200 (by decide) (fun c200 => ?_) (fun c200 => ?_)
    · have hf := it_f c200 hf
      refine lv_iconst (v := 0) hx hb dX3_perform_213 (by decide) ?_
      cases hf
      exact retI hx hb hr hlocks hP hS dX3_perform_214
    · have hf := it_t c200 hf
      refine lv_aload_n hx hb dX3_perform_203 rfl (lv_at hl 1 rfl) ?_
      refine va_get (D := (dC, dI)) (ci := 3) (v := .ref m2) (C := RX3) (T := TX3) (N := 9) hx hb hts (fun w h => mc (inX3 w h)) hown hK hP 0 rfl rfl 2 (by decide) (hts _ (mc q_244)) (fun _ h9 => h9) rfl dX3_perform_204 ?_
      refine lv_iload_n hx hb dX3_perform_207 rfl (lv_at hl 3 rfl) ?_
      refine lv_dup2_11 hx hb dX3_perform_208 rfl rfl ?_
      obtain ⟨hiv209, v209, ev209, hf⟩ := ard_e hf
      refine rw_ald hx hb hK hP 2 0 rfl rfl hiv209 ev209 dX3_perform_209 ?_
      refine lv_iconst (v := 1) hx hb dX3_perform_210 (by decide) ?_
      obtain ⟨v211, ev211, hf⟩ := slet_e hf
      refine lv_iadd hx hb dX3_perform_211 ?_
      refine rw_nm ev211 ?_
      obtain ⟨himsz_212, msz_212, emsz_212, hf⟩ := awr_e hf
      refine rw_ast (ws' := (wX3 cI m0 m1 m2 m3 m4 m5 mlim mkpt msyn mcn mkd msz_212 mct_192 men mch)) hx hb hK hP hD hS 2 0 rfl rfl himsz_212 emsz_212 rfl dX3_perform_212 (fun H locs hP hD hS => ?_)
      refine lv_iconst (v := 0) hx hb dX3_perform_213 (by decide) ?_
      cases hf
      exact retI hx hb hr hlocks hP hS dX3_perform_214
  have hf := it_f c4_4 hf
  have t0 := lv_neT (a := 0) c4_0 (by decide)
  have t1 := lv_neT (a := 1) c4_1 (by decide)
  have t2 := lv_neT (a := 2) c4_2 (by decide)
  have t3 := lv_neT (a := 3) c4_3 (by decide)
  have t4 := lv_neT (a := 4) c4_4 (by decide)
  refine lv_tableOut (tgt := 215) hx hb dX3_perform_4 (by omega) (by decide) ?_
  refine lv_aload_n hx hb dX3_perform_215 rfl (lv_at hl 1 rfl) ?_
  refine va_get (D := (dC, dI)) (ci := 3) (v := .ref m2) (C := RX3) (T := TX3) (N := 9) hx hb hts (fun w h => mc (inX3 w h)) hown hK hP 0 rfl rfl 2 (by decide) (hts _ (mc q_244)) (fun _ h9 => h9) rfl dX3_perform_216 ?_
  refine lv_iload_n hx hb dX3_perform_219 rfl (lv_at hl 3 rfl) ?_
  refine lv_iload_n hx hb dX3_perform_220 rfl (lv_at hl 4 rfl) ?_
  obtain ⟨himsz_221, msz_221, emsz_221, hf⟩ := awr_e hf
  refine rw_ast (ws' := (wX3 cI m0 m1 m2 m3 m4 m5 mlim mkpt msyn mcn mkd msz_221 mct men mch)) hx hb hK hP hD hS 2 0 rfl rfl himsz_221 emsz_221 rfl dX3_perform_221 (fun H locs hP hD hS => ?_)
  refine lv_iconst (v := 0) hx hb dX3_perform_222 (by decide) ?_
  cases hf
  exact retI hx hb hr hlocks hP hS dX3_perform_223
theorem gX3_settle_32 : GoodIn wsX3_settle (wsV RX3 32 RX3 yX3_copy wsX3_copy) := gIn (memV q_239 q_240 q_349 q_5 q_241)
theorem gX3_settle_61 : GoodIn wsX3_settle (wsV RX3 61 RX3 yX3_live wsX3_live) := gIn (memV q_289 q_290 q_359 q_5 q_291)
set_option maxHeartbeats 4000000 in
set_option maxRecDepth 100000 in
theorem cX3_settle_met (l : Launch) (dC : Nat → ClassId) (dI : Nat → Nat → Nat) (cI : ClassId) (m0 m1 m2 m3 m4 m5 : Nat) (mlim : Int32) (mkpt : Int32) (msyn : Int32) (mcn : Int32) (mkd : Nat → Int32) (msz : Nat → Int32) (mct : Nat → Int32) (men : Nat → Int32) (mch : Nat → Int32) (mkpt_o : Int32) (mcn_o : Int32) (mkd_o : Nat → Int32) (msz_o : Nat → Int32) (mct_o : Nat → Int32) (men_o : Nat → Int32) (hf : fX3_settle mkpt mcn mkd msz mct men = some (mkpt_o, mcn_o, mkd_o, msz_o, mct_o, men_o)) : Met l yX3_settle wsX3_settle ({ frames := 1, cells := 0, slots := 0, locals := 23 } : Room) (pcW [.ref m0] (dC, dI) vwCl [(cI, .int)] (wX3 cI m0 m1 m2 m3 m4 m5 mlim mkpt msyn mcn mkd msz mct men mch)) (qV (va_P (dC, dI) vwCl (wX3 cI m0 m1 m2 m3 m4 m5 mlim mkpt_o msyn mcn_o mkd_o msz_o mct_o men_o mch)) (inA [m0, m1, m2, m3, m4, m5])) 0 0 (inA [m0, m1, m2, m3, m4, m5]) := by
  refine Met.ofW (cc := cX3_settle) (maxL := 1) (ret := none) (by decide) rfl ?_
  intro p e s m args below meth c s₁ B hml hv
  obtain ⟨rfl, hP, hK, hD0⟩ := hv
  have hx := B.exec
  have hb := B.bytes
  have hr := B.returns
  have hts := atoms_spec (ws := wsX3_settle) B.pre
  have hown : s.vm.findClass RX3 = some m.cls := findClass_of_methodNamed B.named
  have hlocks := B.notSynchronized
  have hD := my_self (as := [m0, m1, m2, m3, m4, m5]) hD0 rfl
  have hS : va_S (inA [m0, m1, m2, m3, m4, m5]) s.heap s.heap [] := va_S.rf
  have hl := lv_entry ([.ref m0]) (n := 1) (Nat.le_of_ble_eq_true rfl)
  rw [lg_entry_eq]
  generalize (lg_sl ([.ref m0]) ++ List.replicate (1 - (lg_sl ([.ref m0])).length) Slot.unset).toArray = ls at hl ⊢
  have hl : lv_has ls 1 [(0, .ref m0)] := hl
  unfold fX3_settle at hf
  refine lv_aload_n hx hb dX3_settle_0 rfl (lv_at hl 0 rfl) ?_
  refine lv_iconst (v := 0) hx hb dX3_settle_1 (by decide) ?_
  refine lv_iconst (v := 1) hx hb dX3_settle_2 (by decide) ?_
  obtain ⟨mkd_3, msz_3, mct_3, men_3, hc3, hf⟩ := bn4_e hf
  refine callVv (w1 := (wX3 cI m0 m1 m2 m3 m4 m5 mlim mkpt msyn mcn mkd_3 msz_3 mct_3 men_3 mch)) (va_runV (As := [.int 0, .int 1]) (rest := []) ⟨hx, hb, hml, hown, hts⟩ (cX3_copy_met l dC dI cI m0 m1 m2 m3 m4 m5 mlim mkpt msyn mcn mkd msz mct men mch 0 1 mkd_3 msz_3 mct_3 men_3 hc3) (cwV 2 hts gX3_settle_32 rfl rfl rfl (by decide +kernel) ⟨Nat.le_of_ble_eq_true rfl, Nat.le_of_ble_eq_true rfl⟩) (preWV (ci := 3) (q0 := 0) hK hP hD rfl rfl) rfl rfl hl.1 rfl (lv_room (Nat.le_of_ble_eq_true rfl)) dX3_settle_3 ⟨Nat.le_of_ble_eq_true rfl, Nat.le_of_ble_eq_true rfl⟩) hS hD rfl rfl (fun H locs hP hD hS => ?_)
  refine lv_aload_n hx hb dX3_settle_6 rfl (lv_at hl 0 rfl) ?_
  refine lv_iconst (v := 0) hx hb dX3_settle_7 (by decide) ?_
  refine rw_put (D := (dC, dI)) (ci := 3) (v := .int 0) (ty := .int) (C := RX3) (T := TX3) (N := 9) (ws' := (wX3 cI m0 m1 m2 m3 m4 m5 mlim mkpt msyn 0 mkd_3 msz_3 mct_3 men_3 mch)) hx hb hts (fun w h => mc (inX3 w h)) tyX3 tyX3_ok nmX3 hown hK hP hD hS 0 rfl rfl 7 (by decide) (hts _ (mc q_249)) (fun _ h9 => h9) rfl (by decide +kernel) rfl rfl (Nat.le_of_ble_eq_true rfl) rfl dX3_settle_8 (fun H locs hP hD hS => ?_)
  refine lv_aload_n hx hb dX3_settle_11 rfl (lv_at hl 0 rfl) ?_
  refine lv_aload_n hx hb dX3_settle_12 rfl (lv_at hl 0 rfl) ?_
  obtain ⟨r13, hc13, hf⟩ := bn1_e hf
  refine callRi (va_runV (As := []) (rest := [.ref m0]) ⟨hx, hb, hml, hown, hts⟩ (cX3_live_met l dC dI cI m0 m1 m2 m3 m4 m5 mlim mkpt msyn 0 mkd_3 msz_3 mct_3 men_3 mch r13 hc13) (cwV 0 hts gX3_settle_61 rfl rfl rfl (by decide +kernel) ⟨Nat.le_of_ble_eq_true rfl, Nat.le_of_ble_eq_true rfl⟩) (preRV (ci := 3) (q0 := 0) hK hP rfl rfl) rfl rfl hl.1 rfl (lv_room (Nat.le_of_ble_eq_true rfl)) dX3_settle_13 ⟨Nat.le_of_ble_eq_true rfl, Nat.le_of_ble_eq_true rfl⟩) hS hP (fun H locs hP hS => ?_)
  refine rw_put (D := (dC, dI)) (ci := 3) (v := .int r13) (ty := .int) (C := RX3) (T := TX3) (N := 9) (ws' := (wX3 cI m0 m1 m2 m3 m4 m5 mlim r13 msyn 0 mkd_3 msz_3 mct_3 men_3 mch)) hx hb hts (fun w h => mc (inX3 w h)) tyX3 tyX3_ok nmX3 hown hK hP hD hS 0 rfl rfl 5 (by decide) (hts _ (mc q_247)) (fun _ h9 => h9) rfl (by decide +kernel) rfl rfl (Nat.le_of_ble_eq_true rfl) rfl dX3_settle_16 (fun H locs hP hD hS => ?_)
  cases hf
  exact retV hx hb hr hlocks hP hS dX3_settle_19
theorem gX3_sync_84 : GoodIn wsX3_sync (wsV RX3 84 RX3 yX3_settle wsX3_settle) := gIn (memV q_286 q_287 q_358 q_5 q_288)
set_option maxHeartbeats 4000000 in
set_option maxRecDepth 100000 in
theorem cX3_sync_met (l : Launch) (dC : Nat → ClassId) (dI : Nat → Nat → Nat) (cI : ClassId) (m0 m1 m2 m3 m4 m5 : Nat) (mlim : Int32) (mkpt : Int32) (msyn : Int32) (mcn : Int32) (mkd : Nat → Int32) (msz : Nat → Int32) (mct : Nat → Int32) (men : Nat → Int32) (mch : Nat → Int32) (r : Int32) (mkpt_o : Int32) (msyn_o : Int32) (mcn_o : Int32) (mkd_o : Nat → Int32) (msz_o : Nat → Int32) (mct_o : Nat → Int32) (men_o : Nat → Int32) (hf : fX3_sync mkpt msyn mcn mkd msz mct men = some (r, mkpt_o, msyn_o, mcn_o, mkd_o, msz_o, mct_o, men_o)) : Met l yX3_sync wsX3_sync ({ frames := 2, cells := 0, slots := 0, locals := 43 } : Room) (pcW [.ref m0] (dC, dI) vwCl [(cI, .int)] (wX3 cI m0 m1 m2 m3 m4 m5 mlim mkpt msyn mcn mkd msz mct men mch)) (qI r (va_P (dC, dI) vwCl (wX3 cI m0 m1 m2 m3 m4 m5 mlim mkpt_o msyn_o mcn_o mkd_o msz_o mct_o men_o mch)) (inA [m0, m1, m2, m3, m4, m5])) 0 0 (inA [m0, m1, m2, m3, m4, m5]) := by
  refine Met.ofW (cc := cX3_sync) (maxL := 1) (ret := (some .int)) (by decide) rfl ?_
  intro p e s m args below meth c s₁ B hml hv
  obtain ⟨rfl, hP, hK, hD0⟩ := hv
  have hx := B.exec
  have hb := B.bytes
  have hr := B.returns
  have hts := atoms_spec (ws := wsX3_sync) B.pre
  have hown : s.vm.findClass RX3 = some m.cls := findClass_of_methodNamed B.named
  have hlocks := B.notSynchronized
  have hD := my_self (as := [m0, m1, m2, m3, m4, m5]) hD0 rfl
  have hS : va_S (inA [m0, m1, m2, m3, m4, m5]) s.heap s.heap [] := va_S.rf
  have hl := lv_entry ([.ref m0]) (n := 1) (Nat.le_of_ble_eq_true rfl)
  rw [lg_entry_eq]
  generalize (lg_sl ([.ref m0]) ++ List.replicate (1 - (lg_sl ([.ref m0])).length) Slot.unset).toArray = ls at hl ⊢
  have hl : lv_has ls 1 [(0, .ref m0)] := hl
  unfold fX3_sync at hf
  refine lv_aload_n hx hb dX3_sync_0 rfl (lv_at hl 0 rfl) ?_
  obtain ⟨mkpt_1, mcn_1, mkd_1, msz_1, mct_1, men_1, hc1, hf⟩ := bn6_e hf
  refine callVv (w1 := (wX3 cI m0 m1 m2 m3 m4 m5 mlim mkpt_1 msyn mcn_1 mkd_1 msz_1 mct_1 men_1 mch)) (va_runV (As := []) (rest := []) ⟨hx, hb, hml, hown, hts⟩ (cX3_settle_met l dC dI cI m0 m1 m2 m3 m4 m5 mlim mkpt msyn mcn mkd msz mct men mch mkpt_1 mcn_1 mkd_1 msz_1 mct_1 men_1 hc1) (cwV 0 hts gX3_sync_84 rfl rfl rfl (by decide +kernel) ⟨Nat.le_of_ble_eq_true rfl, Nat.le_of_ble_eq_true rfl⟩) (preWV (ci := 3) (q0 := 0) hK hP hD rfl rfl) rfl rfl hl.1 rfl (lv_room (Nat.le_of_ble_eq_true rfl)) dX3_sync_1 ⟨Nat.le_of_ble_eq_true rfl, Nat.le_of_ble_eq_true rfl⟩) hS hD rfl rfl (fun H locs hP hD hS => ?_)
  refine lv_aload_n hx hb dX3_sync_4 rfl (lv_at hl 0 rfl) ?_
  refine lv_dup hx hb dX3_sync_5 rfl ?_
  refine va_get (D := (dC, dI)) (ci := 3) (v := .int msyn) (C := RX3) (T := TX3) (N := 9) hx hb hts (fun w h => mc (inX3 w h)) hown hK hP 0 rfl rfl 6 (by decide) (hts _ (mc q_248)) (fun _ h9 => h9) rfl dX3_sync_6 ?_
  refine lv_iconst (v := 1) hx hb dX3_sync_9 (by decide) ?_
  obtain ⟨v10, ev10, hf⟩ := slet_e hf
  refine lv_iadd hx hb dX3_sync_10 ?_
  refine rw_nm ev10 ?_
  refine rw_put (D := (dC, dI)) (ci := 3) (v := .int v10) (ty := .int) (C := RX3) (T := TX3) (N := 9) (ws' := (wX3 cI m0 m1 m2 m3 m4 m5 mlim mkpt_1 v10 mcn_1 mkd_1 msz_1 mct_1 men_1 mch)) hx hb hts (fun w h => mc (inX3 w h)) tyX3 tyX3_ok nmX3 hown hK hP hD hS 0 rfl rfl 6 (by decide) (hts _ (mc q_248)) (fun _ h9 => h9) rfl (by decide +kernel) rfl rfl (Nat.le_of_ble_eq_true rfl) rfl dX3_sync_11 (fun H locs hP hD hS => ?_)
  refine lv_aload_n hx hb dX3_sync_14 rfl (lv_at hl 0 rfl) ?_
  refine va_get (D := (dC, dI)) (ci := 3) (v := .int mkpt_1) (C := RX3) (T := TX3) (N := 9) hx hb hts (fun w h => mc (inX3 w h)) hown hK hP 0 rfl rfl 5 (by decide) (hts _ (mc q_247)) (fun _ h9 => h9) rfl dX3_sync_15 ?_
  cases hf
  exact retI hx hb hr hlocks hP hS dX3_sync_18
theorem gX3_attempt_64 : GoodIn wsX3_attempt (wsV RX3 64 RX3 yX3_objection wsX3_objection) := gIn (memV q_261 q_262 q_351 q_5 q_263)
theorem gX3_attempt_68 : GoodIn wsX3_attempt (wsV RX3 68 RX3 yX3_cost wsX3_cost) := gIn (memV q_276 q_277 q_356 q_5 q_278)
theorem gX3_attempt_72 : GoodIn wsX3_attempt (wsV RX3 72 RX3 yX3_sync wsX3_sync) := gIn (memV q_282 q_283 q_284 q_5 q_285)
theorem gX3_attempt_32 : GoodIn wsX3_attempt (wsV RX3 32 RX3 yX3_copy wsX3_copy) := gIn (memV q_239 q_240 q_349 q_5 q_241)
theorem gX3_attempt_75 : GoodIn wsX3_attempt (wsV RX3 75 RX3 yX3_perform wsX3_perform) := gIn (memV q_292 q_293 q_360 q_5 q_294)
theorem gX3_attempt_61 : GoodIn wsX3_attempt (wsV RX3 61 RX3 yX3_live wsX3_live) := gIn (memV q_289 q_290 q_359 q_5 q_291)
set_option maxHeartbeats 4000000 in
set_option maxRecDepth 100000 in
theorem wbX3_attempt_51 {p : Program} {l : Launch} {e : Env} {s : State} {m : MethodId} {args : Array Value} {below : List Frame} {meth : Method} {c : Code} {dC : Nat → ClassId} {dI : Nat → Nat → Nat} {cI : ClassId} (hx : p.tables.exec = Jvm.exec) (hb : c.code = cX3_attempt) (hml : c.maxLocals = 10) (hown : s.vm.findClass RX3 = some m.cls) (hts : ∀ w ∈ wsX3_attempt, w.before args s = true) (hr : meth.sig.returnType = (some .int)) (hlocks : meth.locks = false) (hK : va_K (dC, dI) vwCl [(cI, .int)] s) (m0 m1 m2 m3 m4 m5 : Nat) (mlim : Int32) (r : Int32) (mkpt_o : Int32) (msyn_o : Int32) (mcn_o : Int32) (mkd_o : Nat → Int32) (msz_o : Nat → Int32) (mct_o : Nat → Int32) (men_o : Nat → Int32) (mch_o : Nat → Int32) : ∀ (x1 : Int32) (x2 : Int32) (x3 : Int32) (x4 : Int32) (x5 : Int32) (x7 : Int32) (mkpt : Int32) (msyn : Int32) (mcn : Int32) (mkd : Nat → Int32) (msz : Nat → Int32) (mct : Nat → Int32) (men : Nat → Int32) (mch : Nat → Int32) (H : Heap) (locs : List Loc), va_P (dC, dI) vwCl (wX3 cI m0 m1 m2 m3 m4 m5 mlim mkpt msyn mcn mkd msz mct men mch) H → va_D (inA [m0, m1, m2, m3, m4, m5]) (wX3 cI m0 m1 m2 m3 m4 m5 mlim mkpt msyn mcn mkd msz mct men mch) → va_S (inA [m0, m1, m2, m3, m4, m5]) s.heap H locs → ∀ (ls : Array Slot), lv_has ls 10 [(0, .ref m0), (1, .int x1), (2, .int x2), (3, .int x3), (4, .int x4), (5, .int x5), (7, .int x7)] → fX3_attempt_b51 mlim x1 x2 x3 x4 x5 x7 mkpt msyn mcn mkd msz mct men mch = some (r, mkpt_o, msyn_o, mcn_o, mkd_o, msz_o, mct_o, men_o, mch_o) → W p l e ({ frames := 3, cells := 0, slots := 0, locals := 63 } : Room) s m args below meth c H locs 0 0 (MQ below (qI r (va_P (dC, dI) vwCl (wX3 cI m0 m1 m2 m3 m4 m5 mlim mkpt_o msyn_o mcn_o mkd_o msz_o mct_o men_o mch_o)) (inA [m0, m1, m2, m3, m4, m5])) args s 0 0 (inA [m0, m1, m2, m3, m4, m5])) (F0 m 51 ls []) := by
  intro x1 x2 x3 x4 x5 x7 mkpt msyn mcn mkd msz mct men mch H locs hP hD hS ls hl hf
  unfold fX3_attempt_b51 at hf
  refine lv_aload_n hx hb dX3_attempt_51 rfl (lv_at hl 0 rfl) ?_
  refine lv_iconst (v := 0) hx hb dX3_attempt_52 (by decide) ?_
  refine lv_iconst (v := 2) hx hb dX3_attempt_53 (by decide) ?_
  obtain ⟨mkd_54, msz_54, mct_54, men_54, hc54, hf⟩ := bn4_e hf
  refine callVv (w1 := (wX3 cI m0 m1 m2 m3 m4 m5 mlim mkpt msyn mcn mkd_54 msz_54 mct_54 men_54 mch)) (va_runV (As := [.int 0, .int 2]) (rest := []) ⟨hx, hb, hml, hown, hts⟩ (cX3_copy_met l dC dI cI m0 m1 m2 m3 m4 m5 mlim mkpt msyn mcn mkd msz mct men mch 0 2 mkd_54 msz_54 mct_54 men_54 hc54) (cwV 2 hts gX3_attempt_32 rfl rfl rfl (by decide +kernel) ⟨Nat.le_of_ble_eq_true rfl, Nat.le_of_ble_eq_true rfl⟩) (preWV (ci := 3) (q0 := 0) hK hP hD rfl rfl) rfl rfl hl.1 rfl (lv_room (Nat.le_of_ble_eq_true rfl)) dX3_attempt_54 ⟨Nat.le_of_ble_eq_true rfl, Nat.le_of_ble_eq_true rfl⟩) hS hD rfl rfl (fun H locs hP hD hS => ?_)
  refine lv_aload_n hx hb dX3_attempt_57 rfl (lv_at hl 0 rfl) ?_
  refine lv_iload_n hx hb dX3_attempt_58 rfl (lv_at hl 1 rfl) ?_
  refine lv_iload_n hx hb dX3_attempt_59 rfl (lv_at hl 2 rfl) ?_
  refine lv_iload_n hx hb dX3_attempt_60 rfl (lv_at hl 3 rfl) ?_
  refine lv_iload hx hb dX3_attempt_61 (lv_at hl 4 rfl) ?_
  refine lv_iload hx hb dX3_attempt_63 (lv_at hl 5 rfl) ?_
  obtain ⟨r65, mkd_65, msz_65, mct_65, men_65, hc65, hf⟩ := bn5_e hf
  refine callVi (w1 := (wX3 cI m0 m1 m2 m3 m4 m5 mlim mkpt msyn mcn mkd_65 msz_65 mct_65 men_65 mch)) (va_runV (As := [.int x1, .int x2, .int x3, .int x4, .int x5]) (rest := []) ⟨hx, hb, hml, hown, hts⟩ (cX3_perform_met l dC dI cI m0 m1 m2 m3 m4 m5 mlim mkpt msyn mcn mkd_54 msz_54 mct_54 men_54 mch x1 x2 x3 x4 x5 r65 mkd_65 msz_65 mct_65 men_65 hc65) (cwV 5 hts gX3_attempt_75 rfl rfl rfl (by decide +kernel) ⟨Nat.le_of_ble_eq_true rfl, Nat.le_of_ble_eq_true rfl⟩) (preWV (ci := 3) (q0 := 0) hK hP hD rfl rfl) rfl rfl hl.1 rfl (lv_room (Nat.le_of_ble_eq_true rfl)) dX3_attempt_65 ⟨Nat.le_of_ble_eq_true rfl, Nat.le_of_ble_eq_true rfl⟩) hS hD rfl rfl (fun H locs hP hD hS => ?_)
  refine lv_istore (lv' := [(8, .int r65), (0, .ref m0), (1, .int x1), (2, .int x2), (3, .int x3), (4, .int x4), (5, .int x5), (7, .int x7)]) hx hb dX3_attempt_68 hl (by decide) rfl (fun ls hl => ?_)
  refine lv_aload_n hx hb dX3_attempt_70 rfl (lv_at hl 1 rfl) ?_
  obtain ⟨r71, hc71, hf⟩ := bn1_e hf
  refine callRi (va_runV (As := []) (rest := []) ⟨hx, hb, hml, hown, hts⟩ (cX3_live_met l dC dI cI m0 m1 m2 m3 m4 m5 mlim mkpt msyn mcn mkd_65 msz_65 mct_65 men_65 mch r71 hc71) (cwV 0 hts gX3_attempt_61 rfl rfl rfl (by decide +kernel) ⟨Nat.le_of_ble_eq_true rfl, Nat.le_of_ble_eq_true rfl⟩) (preRV (ci := 3) (q0 := 0) hK hP rfl rfl) rfl rfl hl.1 rfl (lv_room (Nat.le_of_ble_eq_true rfl)) dX3_attempt_71 ⟨Nat.le_of_ble_eq_true rfl, Nat.le_of_ble_eq_true rfl⟩) hS hP (fun H locs hP hS => ?_)
  refine lv_aload_n hx hb dX3_attempt_74 rfl (lv_at hl 1 rfl) ?_
  refine va_get (D := (dC, dI)) (ci := 3) (v := .int mlim) (C := RX3) (T := TX3) (N := 9) hx hb hts (fun w h => mc (inX3 w h)) hown hK hP 0 rfl rfl 0 (by decide) (hts _ (mc q_242)) (fun _ h9 => h9) rfl dX3_attempt_75 ?_
  refine lv_bipush (v := 8) hx hb dX3_attempt_78 (by decide) ?_
  obtain ⟨v80, ev80, hf⟩ := slet_e hf
  refine lv_isub hx hb dX3_attempt_80 ?_
  refine rw_nm ev80 ?_
  refine lv_icmp_le (tgt := 93) hx hb dX3_attempt_81 (by decide) (fun c81 => ?_) (fun c81 => ?_)
  · have hf := it_t c81 hf
    refine lv_aload_n hx hb dX3_attempt_93 rfl (lv_at hl 1 rfl) ?_
    refine lv_dup hx hb dX3_attempt_94 rfl ?_
    refine va_get (D := (dC, dI)) (ci := 3) (v := .int mkpt) (C := RX3) (T := TX3) (N := 9) hx hb hts (fun w h => mc (inX3 w h)) hown hK hP 0 rfl rfl 5 (by decide) (hts _ (mc q_247)) (fun _ h9 => h9) rfl dX3_attempt_95 ?_
    refine lv_iload hx hb dX3_attempt_98 (lv_at hl 7 rfl) ?_
    obtain ⟨v100, ev100, hf⟩ := slet_e hf
    refine lv_iadd hx hb dX3_attempt_100 ?_
    refine rw_nm ev100 ?_
    refine rw_put (D := (dC, dI)) (ci := 3) (v := .int v100) (ty := .int) (C := RX3) (T := TX3) (N := 9) (ws' := (wX3 cI m0 m1 m2 m3 m4 m5 mlim v100 msyn mcn mkd_65 msz_65 mct_65 men_65 mch)) hx hb hts (fun w h => mc (inX3 w h)) tyX3 tyX3_ok nmX3 hown hK hP hD hS 0 rfl rfl 5 (by decide) (hts _ (mc q_247)) (fun _ h9 => h9) rfl (by decide +kernel) rfl rfl (Nat.le_of_ble_eq_true rfl) rfl dX3_attempt_101 (fun H locs hP hD hS => ?_)
    refine lv_iconst (v := 5) hx hb dX3_attempt_104 (by decide) ?_
    refine lv_aload_n hx hb dX3_attempt_105 rfl (lv_at hl 1 rfl) ?_
    refine va_get (D := (dC, dI)) (ci := 3) (v := .int mcn) (C := RX3) (T := TX3) (N := 9) hx hb hts (fun w h => mc (inX3 w h)) hown hK hP 0 rfl rfl 7 (by decide) (hts _ (mc q_249)) (fun _ h9 => h9) rfl dX3_attempt_106 ?_
    obtain ⟨v109, ev109, hf⟩ := slet_e hf
    refine lv_imul hx hb dX3_attempt_109 ?_
    refine rw_nm ev109 ?_
    refine lv_istore (lv' := [(9, .int v109), (8, .int r65), (0, .ref m0), (1, .int x1), (2, .int x2), (3, .int x3), (4, .int x4), (5, .int x5), (7, .int x7)]) hx hb dX3_attempt_110 hl (by decide) rfl (fun ls hl => ?_)
    refine lv_aload_n hx hb dX3_attempt_112 rfl (lv_at hl 2 rfl) ?_
    refine va_get (D := (dC, dI)) (ci := 3) (v := .ref m5) (C := RX3) (T := TX3) (N := 9) hx hb hts (fun w h => mc (inX3 w h)) hown hK hP 0 rfl rfl 8 (by decide) (hts _ (mc q_250)) (fun _ h9 => h9) rfl dX3_attempt_113 ?_
    refine lv_iload hx hb dX3_attempt_116 (lv_at hl 0 rfl) ?_
    refine lv_iload_n hx hb dX3_attempt_118 rfl (lv_at hl 3 rfl) ?_
    obtain ⟨himch_119, mch_119, emch_119, hf⟩ := awr_e hf
    refine rw_ast (ws' := (wX3 cI m0 m1 m2 m3 m4 m5 mlim v100 msyn mcn mkd_65 msz_65 mct_65 men_65 mch_119)) hx hb hK hP hD hS 5 0 rfl rfl himch_119 emch_119 rfl dX3_attempt_119 (fun H locs hP hD hS => ?_)
    refine lv_aload_n hx hb dX3_attempt_120 rfl (lv_at hl 2 rfl) ?_
    refine va_get (D := (dC, dI)) (ci := 3) (v := .ref m5) (C := RX3) (T := TX3) (N := 9) hx hb hts (fun w h => mc (inX3 w h)) hown hK hP 0 rfl rfl 8 (by decide) (hts _ (mc q_250)) (fun _ h9 => h9) rfl dX3_attempt_121 ?_
    refine lv_iload hx hb dX3_attempt_124 (lv_at hl 0 rfl) ?_
    refine lv_iconst (v := 1) hx hb dX3_attempt_126 (by decide) ?_
    obtain ⟨v127, ev127, hf⟩ := slet_e hf
    refine lv_iadd hx hb dX3_attempt_127 ?_
    refine rw_nm ev127 ?_
    refine lv_iload_n hx hb dX3_attempt_128 rfl (lv_at hl 4 rfl) ?_
    obtain ⟨himch_129, mch_129, emch_129, hf⟩ := awr_e hf
    refine rw_ast (ws' := (wX3 cI m0 m1 m2 m3 m4 m5 mlim v100 msyn mcn mkd_65 msz_65 mct_65 men_65 mch_129)) hx hb hK hP hD hS 5 0 rfl rfl himch_129 emch_129 rfl dX3_attempt_129 (fun H locs hP hD hS => ?_)
    refine lv_aload_n hx hb dX3_attempt_130 rfl (lv_at hl 2 rfl) ?_
    refine va_get (D := (dC, dI)) (ci := 3) (v := .ref m5) (C := RX3) (T := TX3) (N := 9) hx hb hts (fun w h => mc (inX3 w h)) hown hK hP 0 rfl rfl 8 (by decide) (hts _ (mc q_250)) (fun _ h9 => h9) rfl dX3_attempt_131 ?_
    refine lv_iload hx hb dX3_attempt_134 (lv_at hl 0 rfl) ?_
    refine lv_iconst (v := 2) hx hb dX3_attempt_136 (by decide) ?_
    obtain ⟨v137, ev137, hf⟩ := slet_e hf
    refine lv_iadd hx hb dX3_attempt_137 ?_
    refine rw_nm ev137 ?_
    refine lv_iload_n hx hb dX3_attempt_138 rfl (lv_at hl 5 rfl) ?_
    obtain ⟨himch_139, mch_139, emch_139, hf⟩ := awr_e hf
    refine rw_ast (ws' := (wX3 cI m0 m1 m2 m3 m4 m5 mlim v100 msyn mcn mkd_65 msz_65 mct_65 men_65 mch_139)) hx hb hK hP hD hS 5 0 rfl rfl himch_139 emch_139 rfl dX3_attempt_139 (fun H locs hP hD hS => ?_)
    refine lv_aload_n hx hb dX3_attempt_140 rfl (lv_at hl 2 rfl) ?_
    refine va_get (D := (dC, dI)) (ci := 3) (v := .ref m5) (C := RX3) (T := TX3) (N := 9) hx hb hts (fun w h => mc (inX3 w h)) hown hK hP 0 rfl rfl 8 (by decide) (hts _ (mc q_250)) (fun _ h9 => h9) rfl dX3_attempt_141 ?_
    refine lv_iload hx hb dX3_attempt_144 (lv_at hl 0 rfl) ?_
    refine lv_iconst (v := 3) hx hb dX3_attempt_146 (by decide) ?_
    obtain ⟨v147, ev147, hf⟩ := slet_e hf
    refine lv_iadd hx hb dX3_attempt_147 ?_
    refine rw_nm ev147 ?_
    refine lv_iload hx hb dX3_attempt_148 (lv_at hl 6 rfl) ?_
    obtain ⟨himch_150, mch_150, emch_150, hf⟩ := awr_e hf
    refine rw_ast (ws' := (wX3 cI m0 m1 m2 m3 m4 m5 mlim v100 msyn mcn mkd_65 msz_65 mct_65 men_65 mch_150)) hx hb hK hP hD hS 5 0 rfl rfl himch_150 emch_150 rfl dX3_attempt_150 (fun H locs hP hD hS => ?_)
    refine lv_aload_n hx hb dX3_attempt_151 rfl (lv_at hl 2 rfl) ?_
    refine va_get (D := (dC, dI)) (ci := 3) (v := .ref m5) (C := RX3) (T := TX3) (N := 9) hx hb hts (fun w h => mc (inX3 w h)) hown hK hP 0 rfl rfl 8 (by decide) (hts _ (mc q_250)) (fun _ h9 => h9) rfl dX3_attempt_152 ?_
    refine lv_iload hx hb dX3_attempt_155 (lv_at hl 0 rfl) ?_
    refine lv_iconst (v := 4) hx hb dX3_attempt_157 (by decide) ?_
    obtain ⟨v158, ev158, hf⟩ := slet_e hf
    refine lv_iadd hx hb dX3_attempt_158 ?_
    refine rw_nm ev158 ?_
    refine lv_iload hx hb dX3_attempt_159 (lv_at hl 7 rfl) ?_
    obtain ⟨himch_161, mch_161, emch_161, hf⟩ := awr_e hf
    refine rw_ast (ws' := (wX3 cI m0 m1 m2 m3 m4 m5 mlim v100 msyn mcn mkd_65 msz_65 mct_65 men_65 mch_161)) hx hb hK hP hD hS 5 0 rfl rfl himch_161 emch_161 rfl dX3_attempt_161 (fun H locs hP hD hS => ?_)
    refine lv_aload_n hx hb dX3_attempt_162 rfl (lv_at hl 2 rfl) ?_
    refine lv_dup hx hb dX3_attempt_163 rfl ?_
    refine va_get (D := (dC, dI)) (ci := 3) (v := .int mcn) (C := RX3) (T := TX3) (N := 9) hx hb hts (fun w h => mc (inX3 w h)) hown hK hP 0 rfl rfl 7 (by decide) (hts _ (mc q_249)) (fun _ h9 => h9) rfl dX3_attempt_164 ?_
    refine lv_iconst (v := 1) hx hb dX3_attempt_167 (by decide) ?_
    obtain ⟨v168, ev168, hf⟩ := slet_e hf
    refine lv_iadd hx hb dX3_attempt_168 ?_
    refine rw_nm ev168 ?_
    refine rw_put (D := (dC, dI)) (ci := 3) (v := .int v168) (ty := .int) (C := RX3) (T := TX3) (N := 9) (ws' := (wX3 cI m0 m1 m2 m3 m4 m5 mlim v100 msyn v168 mkd_65 msz_65 mct_65 men_65 mch_161)) hx hb hts (fun w h => mc (inX3 w h)) tyX3 tyX3_ok nmX3 hown hK hP hD hS 0 rfl rfl 7 (by decide) (hts _ (mc q_249)) (fun _ h9 => h9) rfl (by decide +kernel) rfl rfl (Nat.le_of_ble_eq_true rfl) rfl dX3_attempt_169 (fun H locs hP hD hS => ?_)
    refine lv_iload hx hb dX3_attempt_172 (lv_at hl 1 rfl) ?_
    cases hf
    exact retI hx hb hr hlocks hP hS dX3_attempt_174
  · have hf := it_f c81 hf
    refine lv_aload_n hx hb dX3_attempt_84 rfl (lv_at hl 1 rfl) ?_
    refine lv_iconst (v := 2) hx hb dX3_attempt_85 (by decide) ?_
    refine lv_iconst (v := 0) hx hb dX3_attempt_86 (by decide) ?_
    obtain ⟨mkd_87, msz_87, mct_87, men_87, hc87, hf⟩ := bn4_e hf
    refine callVv (w1 := (wX3 cI m0 m1 m2 m3 m4 m5 mlim mkpt msyn mcn mkd_87 msz_87 mct_87 men_87 mch)) (va_runV (As := [.int 2, .int 0]) (rest := []) ⟨hx, hb, hml, hown, hts⟩ (cX3_copy_met l dC dI cI m0 m1 m2 m3 m4 m5 mlim mkpt msyn mcn mkd_65 msz_65 mct_65 men_65 mch 2 0 mkd_87 msz_87 mct_87 men_87 hc87) (cwV 2 hts gX3_attempt_32 rfl rfl rfl (by decide +kernel) ⟨Nat.le_of_ble_eq_true rfl, Nat.le_of_ble_eq_true rfl⟩) (preWV (ci := 3) (q0 := 0) hK hP hD rfl rfl) rfl rfl hl.1 rfl (lv_room (Nat.le_of_ble_eq_true rfl)) dX3_attempt_87 ⟨Nat.le_of_ble_eq_true rfl, Nat.le_of_ble_eq_true rfl⟩) hS hD rfl rfl (fun H locs hP hD hS => ?_)
    refine lv_bipush (v := -6) hx hb dX3_attempt_90 (by decide) ?_
    cases hf
    exact retI hx hb hr hlocks hP hS dX3_attempt_92
set_option maxHeartbeats 4000000 in
set_option maxRecDepth 100000 in
theorem cX3_attempt_met (l : Launch) (dC : Nat → ClassId) (dI : Nat → Nat → Nat) (cI : ClassId) (m0 m1 m2 m3 m4 m5 : Nat) (mlim : Int32) (mkpt : Int32) (msyn : Int32) (mcn : Int32) (mkd : Nat → Int32) (msz : Nat → Int32) (mct : Nat → Int32) (men : Nat → Int32) (mch : Nat → Int32) (x1 : Int32) (x2 : Int32) (x3 : Int32) (x4 : Int32) (x5 : Int32) (r : Int32) (mkpt_o : Int32) (msyn_o : Int32) (mcn_o : Int32) (mkd_o : Nat → Int32) (msz_o : Nat → Int32) (mct_o : Nat → Int32) (men_o : Nat → Int32) (mch_o : Nat → Int32) (hf : fX3_attempt x1 x2 x3 x4 x5 mlim mkpt msyn mcn mkd msz mct men mch = some (r, mkpt_o, msyn_o, mcn_o, mkd_o, msz_o, mct_o, men_o, mch_o)) : Met l yX3_attempt wsX3_attempt ({ frames := 3, cells := 0, slots := 0, locals := 63 } : Room) (pcW [.ref m0, .int x1, .int x2, .int x3, .int x4, .int x5] (dC, dI) vwCl [(cI, .int)] (wX3 cI m0 m1 m2 m3 m4 m5 mlim mkpt msyn mcn mkd msz mct men mch)) (qI r (va_P (dC, dI) vwCl (wX3 cI m0 m1 m2 m3 m4 m5 mlim mkpt_o msyn_o mcn_o mkd_o msz_o mct_o men_o mch_o)) (inA [m0, m1, m2, m3, m4, m5])) 0 0 (inA [m0, m1, m2, m3, m4, m5]) := by
  refine Met.ofW (cc := cX3_attempt) (maxL := 10) (ret := (some .int)) (by decide) rfl ?_
  intro p e s m args below meth c s₁ B hml hv
  obtain ⟨rfl, hP, hK, hD0⟩ := hv
  have hx := B.exec
  have hb := B.bytes
  have hr := B.returns
  have hts := atoms_spec (ws := wsX3_attempt) B.pre
  have hown : s.vm.findClass RX3 = some m.cls := findClass_of_methodNamed B.named
  have hlocks := B.notSynchronized
  have hD := my_self (as := [m0, m1, m2, m3, m4, m5]) hD0 rfl
  have hS : va_S (inA [m0, m1, m2, m3, m4, m5]) s.heap s.heap [] := va_S.rf
  have hl := lv_entry ([.ref m0, .int x1, .int x2, .int x3, .int x4, .int x5]) (n := 10) (Nat.le_of_ble_eq_true rfl)
  rw [lg_entry_eq]
  generalize (lg_sl ([.ref m0, .int x1, .int x2, .int x3, .int x4, .int x5]) ++ List.replicate (10 - (lg_sl ([.ref m0, .int x1, .int x2, .int x3, .int x4, .int x5])).length) Slot.unset).toArray = ls at hl ⊢
  have hl : lv_has ls 10 [(0, .ref m0), (1, .int x1), (2, .int x2), (3, .int x3), (4, .int x4), (5, .int x5)] := hl
  unfold fX3_attempt at hf
  refine lv_aload_n hx hb dX3_attempt_0 rfl (lv_at hl 0 rfl) ?_
  refine lv_iload_n hx hb dX3_attempt_1 rfl (lv_at hl 1 rfl) ?_
  refine lv_iload_n hx hb dX3_attempt_2 rfl (lv_at hl 2 rfl) ?_
  refine lv_iload_n hx hb dX3_attempt_3 rfl (lv_at hl 3 rfl) ?_
  refine lv_iload hx hb dX3_attempt_4 (lv_at hl 4 rfl) ?_
  refine lv_iload hx hb dX3_attempt_6 (lv_at hl 5 rfl) ?_
  obtain ⟨r8, hc8, hf⟩ := bn1_e hf
  refine callRi (va_runV (As := [.int x1, .int x2, .int x3, .int x4, .int x5]) (rest := []) ⟨hx, hb, hml, hown, hts⟩ (cX3_objection_met l dC dI cI m0 m1 m2 m3 m4 m5 mlim mkpt msyn mcn mkd msz mct men mch x1 x2 x3 x4 x5 r8 hc8) (cwV 5 hts gX3_attempt_64 rfl rfl rfl (by decide +kernel) ⟨Nat.le_of_ble_eq_true rfl, Nat.le_of_ble_eq_true rfl⟩) (preRV (ci := 3) (q0 := 0) hK hP rfl rfl) rfl rfl hl.1 rfl (lv_room (Nat.le_of_ble_eq_true rfl)) dX3_attempt_8 ⟨Nat.le_of_ble_eq_true rfl, Nat.le_of_ble_eq_true rfl⟩) hS hP (fun H locs hP hS => ?_)
  refine lv_istore (lv' := [(6, .int r8), (0, .ref m0), (1, .int x1), (2, .int x2), (3, .int x3), (4, .int x4), (5, .int x5)]) hx hb dX3_attempt_11 hl (by decide) rfl (fun ls hl => ?_)
  refine lv_iload hx hb dX3_attempt_13 (lv_at hl 0 rfl) ?_
  refine lv_if_eq (tgt := 21) hx hb dX3_attempt_15 (by decide) (fun c15 => ?_) (fun c15 => ?_)
  · have hf := it_t c15 hf
    refine lv_aload_n hx hb dX3_attempt_21 rfl (lv_at hl 1 rfl) ?_
    refine lv_iload_n hx hb dX3_attempt_22 rfl (lv_at hl 2 rfl) ?_
    refine lv_iload_n hx hb dX3_attempt_23 rfl (lv_at hl 3 rfl) ?_
    refine lv_iload_n hx hb dX3_attempt_24 rfl (lv_at hl 4 rfl) ?_
    refine lv_iload hx hb dX3_attempt_25 (lv_at hl 5 rfl) ?_
    obtain ⟨r27, hc27, hf⟩ := bn1_e hf
    refine callRi (va_runV (As := [.int x1, .int x2, .int x3, .int x4]) (rest := []) ⟨hx, hb, hml, hown, hts⟩ (cX3_cost_met l dC dI cI m0 m1 m2 m3 m4 m5 mlim mkpt msyn mcn mkd msz mct men mch x1 x2 x3 x4 r27 hc27) (cwV 4 hts gX3_attempt_68 rfl rfl rfl (by decide +kernel) ⟨Nat.le_of_ble_eq_true rfl, Nat.le_of_ble_eq_true rfl⟩) (preRV (ci := 3) (q0 := 0) hK hP rfl rfl) rfl rfl hl.1 rfl (lv_room (Nat.le_of_ble_eq_true rfl)) dX3_attempt_27 ⟨Nat.le_of_ble_eq_true rfl, Nat.le_of_ble_eq_true rfl⟩) hS hP (fun H locs hP hS => ?_)
    refine lv_istore (lv' := [(7, .int r27), (6, .int r8), (0, .ref m0), (1, .int x1), (2, .int x2), (3, .int x3), (4, .int x4), (5, .int x5)]) hx hb dX3_attempt_30 hl (by decide) rfl (fun ls hl => ?_)
    refine lv_aload_n hx hb dX3_attempt_32 rfl (lv_at hl 2 rfl) ?_
    refine va_get (D := (dC, dI)) (ci := 3) (v := .int mkpt) (C := RX3) (T := TX3) (N := 9) hx hb hts (fun w h => mc (inX3 w h)) hown hK hP 0 rfl rfl 5 (by decide) (hts _ (mc q_247)) (fun _ h9 => h9) rfl dX3_attempt_33 ?_
    refine lv_iload hx hb dX3_attempt_36 (lv_at hl 0 rfl) ?_
    obtain ⟨v38, ev38, hf⟩ := slet_e hf
    refine lv_iadd hx hb dX3_attempt_38 ?_
    refine rw_nm ev38 ?_
    refine lv_aload_n hx hb dX3_attempt_39 rfl (lv_at hl 2 rfl) ?_
    refine va_get (D := (dC, dI)) (ci := 3) (v := .int mlim) (C := RX3) (T := TX3) (N := 9) hx hb hts (fun w h => mc (inX3 w h)) hown hK hP 0 rfl rfl 0 (by decide) (hts _ (mc q_242)) (fun _ h9 => h9) rfl dX3_attempt_40 ?_
    refine lv_icmp_le (tgt := 51) hx hb dX3_attempt_43 (by decide) (fun c43 => ?_) (fun c43 => ?_)
    · have hf := it_t c43 hf
      exact wbX3_attempt_51 hx hb hml hown hts hr hlocks hK m0 m1 m2 m3 m4 m5 mlim r mkpt_o msyn_o mcn_o mkd_o msz_o mct_o men_o mch_o x1 x2 x3 x4 x5 r27 mkpt msyn mcn mkd msz mct men mch _ _ hP hD hS _ (lv_sub hl [2, 3, 4, 5, 6, 7, 0] rfl) hf
    · have hf := it_f c43 hf
      refine lv_aload_n hx hb dX3_attempt_46 rfl (lv_at hl 2 rfl) ?_
      obtain ⟨r47, mkpt_47, msyn_47, mcn_47, mkd_47, msz_47, mct_47, men_47, hc47, hf⟩ := bn8_e hf
      refine callVi (w1 := (wX3 cI m0 m1 m2 m3 m4 m5 mlim mkpt_47 msyn_47 mcn_47 mkd_47 msz_47 mct_47 men_47 mch)) (va_runV (As := []) (rest := []) ⟨hx, hb, hml, hown, hts⟩ (cX3_sync_met l dC dI cI m0 m1 m2 m3 m4 m5 mlim mkpt msyn mcn mkd msz mct men mch r47 mkpt_47 msyn_47 mcn_47 mkd_47 msz_47 mct_47 men_47 hc47) (cwV 0 hts gX3_attempt_72 rfl rfl rfl (by decide +kernel) ⟨Nat.le_of_ble_eq_true rfl, Nat.le_of_ble_eq_true rfl⟩) (preWV (ci := 3) (q0 := 0) hK hP hD rfl rfl) rfl rfl hl.1 rfl (lv_room (Nat.le_of_ble_eq_true rfl)) dX3_attempt_47 ⟨Nat.le_of_ble_eq_true rfl, Nat.le_of_ble_eq_true rfl⟩) hS hD rfl rfl (fun H locs hP hD hS => ?_)
      refine lv_pop hx hb dX3_attempt_50 rfl ?_
      exact wbX3_attempt_51 hx hb hml hown hts hr hlocks hK m0 m1 m2 m3 m4 m5 mlim r mkpt_o msyn_o mcn_o mkd_o msz_o mct_o men_o mch_o x1 x2 x3 x4 x5 r27 mkpt_47 msyn_47 mcn_47 mkd_47 msz_47 mct_47 men_47 mch _ _ hP hD hS _ (lv_sub hl [2, 3, 4, 5, 6, 7, 0] rfl) hf
  · have hf := it_f c15 hf
    refine lv_iload hx hb dX3_attempt_18 (lv_at hl 0 rfl) ?_
    cases hf
    exact retI hx hb hr hlocks hP hS dX3_attempt_20
theorem gX3_create_78 : GoodIn wsX3_create (wsS RX3 78 yX3_out wsX3_out) := gIn (memS q_255 q_256 q_5 q_257)
theorem gX3_create_81 : GoodIn wsX3_create (wsV RX3 81 RX3 yX3_attempt wsX3_attempt) := gIn (memV q_258 q_259 q_350 q_5 q_260)
set_option maxHeartbeats 4000000 in
set_option maxRecDepth 100000 in
theorem cX3_create_met (l : Launch) (dC : Nat → ClassId) (dI : Nat → Nat → Nat) (cI : ClassId) (m0 m1 m2 m3 m4 m5 : Nat) (mlim : Int32) (mkpt : Int32) (msyn : Int32) (mcn : Int32) (mkd : Nat → Int32) (msz : Nat → Int32) (mct : Nat → Int32) (men : Nat → Int32) (mch : Nat → Int32) (x1 : Int32) (x2 : Int32) (x3 : Int32) (r : Int32) (mkpt_o : Int32) (msyn_o : Int32) (mcn_o : Int32) (mkd_o : Nat → Int32) (msz_o : Nat → Int32) (mct_o : Nat → Int32) (men_o : Nat → Int32) (mch_o : Nat → Int32) (hf : fX3_create x1 x2 x3 mlim mkpt msyn mcn mkd msz mct men mch = some (r, mkpt_o, msyn_o, mcn_o, mkd_o, msz_o, mct_o, men_o, mch_o)) : Met l yX3_create wsX3_create ({ frames := 4, cells := 0, slots := 0, locals := 92 } : Room) (pcW [.ref m0, .int x1, .int x2, .int x3] (dC, dI) vwCl [(cI, .int)] (wX3 cI m0 m1 m2 m3 m4 m5 mlim mkpt msyn mcn mkd msz mct men mch)) (qI r (va_P (dC, dI) vwCl (wX3 cI m0 m1 m2 m3 m4 m5 mlim mkpt_o msyn_o mcn_o mkd_o msz_o mct_o men_o mch_o)) (inA [m0, m1, m2, m3, m4, m5])) 0 0 (inA [m0, m1, m2, m3, m4, m5]) := by
  refine Met.ofW (cc := cX3_create) (maxL := 4) (ret := (some .int)) (by decide) rfl ?_
  intro p e s m args below meth c s₁ B hml hv
  obtain ⟨rfl, hP, hK, hD0⟩ := hv
  have hx := B.exec
  have hb := B.bytes
  have hr := B.returns
  have hts := atoms_spec (ws := wsX3_create) B.pre
  have hown : s.vm.findClass RX3 = some m.cls := findClass_of_methodNamed B.named
  have hlocks := B.notSynchronized
  have hD := my_self (as := [m0, m1, m2, m3, m4, m5]) hD0 rfl
  have hS : va_S (inA [m0, m1, m2, m3, m4, m5]) s.heap s.heap [] := va_S.rf
  have hl := lv_entry ([.ref m0, .int x1, .int x2, .int x3]) (n := 4) (Nat.le_of_ble_eq_true rfl)
  rw [lg_entry_eq]
  generalize (lg_sl ([.ref m0, .int x1, .int x2, .int x3]) ++ List.replicate (4 - (lg_sl ([.ref m0, .int x1, .int x2, .int x3])).length) Slot.unset).toArray = ls at hl ⊢
  have hl : lv_has ls 4 [(0, .ref m0), (1, .int x1), (2, .int x2), (3, .int x3)] := hl
  unfold fX3_create at hf
  refine lv_iload_n hx hb dX3_create_0 rfl (lv_at hl 1 rfl) ?_
  refine lv_bipush (v := 16) hx hb dX3_create_1 (by decide) ?_
  obtain ⟨r3, hc3, hf⟩ := bn1_e hf
  refine callRi (va_runS (As := [.int x1, .int 16]) (rest := []) ⟨hx, hb, hml, hown, hts⟩ (cX3_out_met l dC dI cI x1 16 r3 hc3) (cwS 2 hts gX3_create_78 rfl rfl rfl (by decide +kernel) ⟨Nat.le_of_ble_eq_true rfl, Nat.le_of_ble_eq_true rfl⟩) (preRS hK (hP.sub (ws' := []) [] rfl)) rfl rfl hl.1 rfl (lv_room (Nat.le_of_ble_eq_true rfl)) dX3_create_3 ⟨Nat.le_of_ble_eq_true rfl, Nat.le_of_ble_eq_true rfl⟩) hS hP (fun H locs hP hS => ?_)
  refine lv_if_ne (tgt := 18) hx hb dX3_create_6 (by decide) (fun c6 => ?_) (fun c6 => ?_)
  · have hf := it_f c6 hf
    refine lv_iconst (v := -1) hx hb dX3_create_18 (by decide) ?_
    cases hf
    exact retI hx hb hr hlocks hP hS dX3_create_19
  · have hf := it_t c6 hf
    refine lv_iload_n hx hb dX3_create_9 rfl (lv_at hl 2 rfl) ?_
    refine lv_bipush (v := 32) hx hb dX3_create_10 (by decide) ?_
    obtain ⟨r12, hc12, hf⟩ := bn1_e hf
    refine callRi (va_runS (As := [.int x2, .int 32]) (rest := []) ⟨hx, hb, hml, hown, hts⟩ (cX3_out_met l dC dI cI x2 32 r12 hc12) (cwS 2 hts gX3_create_78 rfl rfl rfl (by decide +kernel) ⟨Nat.le_of_ble_eq_true rfl, Nat.le_of_ble_eq_true rfl⟩) (preRS hK (hP.sub (ws' := []) [] rfl)) rfl rfl hl.1 rfl (lv_room (Nat.le_of_ble_eq_true rfl)) dX3_create_12 ⟨Nat.le_of_ble_eq_true rfl, Nat.le_of_ble_eq_true rfl⟩) hS hP (fun H locs hP hS => ?_)
    refine lv_if_eq (tgt := 20) hx hb dX3_create_15 (by decide) (fun c15 => ?_) (fun c15 => ?_)
    · have hf := it_t c15 hf
      refine lv_aload_n hx hb dX3_create_20 rfl (lv_at hl 0 rfl) ?_
      refine lv_iconst (v := 0) hx hb dX3_create_21 (by decide) ?_
      refine lv_iload_n hx hb dX3_create_22 rfl (lv_at hl 1 rfl) ?_
      refine lv_iload_n hx hb dX3_create_23 rfl (lv_at hl 2 rfl) ?_
      refine lv_iload_n hx hb dX3_create_24 rfl (lv_at hl 3 rfl) ?_
      refine lv_if_eq (tgt := 32) hx hb dX3_create_25 (by decide) (fun c25 => ?_) (fun c25 => ?_)
      · have hf := it_t c25 hf
        refine lv_iconst (v := 1) hx hb dX3_create_32 (by decide) ?_
        refine lv_iconst (v := 0) hx hb dX3_create_33 (by decide) ?_
        obtain ⟨r34, mkpt_34, msyn_34, mcn_34, mkd_34, msz_34, mct_34, men_34, mch_34, hc34, hf⟩ := bn9_e hf
        refine callVi (w1 := (wX3 cI m0 m1 m2 m3 m4 m5 mlim mkpt_34 msyn_34 mcn_34 mkd_34 msz_34 mct_34 men_34 mch_34)) (va_runV (As := [.int 0, .int x1, .int x2, .int 1, .int 0]) (rest := []) ⟨hx, hb, hml, hown, hts⟩ (cX3_attempt_met l dC dI cI m0 m1 m2 m3 m4 m5 mlim mkpt msyn mcn mkd msz mct men mch 0 x1 x2 1 0 r34 mkpt_34 msyn_34 mcn_34 mkd_34 msz_34 mct_34 men_34 mch_34 hc34) (cwV 5 hts gX3_create_81 rfl rfl rfl (by decide +kernel) ⟨Nat.le_of_ble_eq_true rfl, Nat.le_of_ble_eq_true rfl⟩) (preWV (ci := 3) (q0 := 0) hK hP hD rfl rfl) rfl rfl hl.1 rfl (lv_room (Nat.le_of_ble_eq_true rfl)) dX3_create_34 ⟨Nat.le_of_ble_eq_true rfl, Nat.le_of_ble_eq_true rfl⟩) hS hD rfl rfl (fun H locs hP hD hS => ?_)
        cases hf
        exact retI hx hb hr hlocks hP hS dX3_create_37
      · have hf := it_f c25 hf
        refine lv_iconst (v := 2) hx hb dX3_create_28 (by decide) ?_
        refine lv_goto (tgt := 33) hx hb dX3_create_29 (by decide) ?_
        refine lv_iconst (v := 0) hx hb dX3_create_33 (by decide) ?_
        obtain ⟨r34, mkpt_34, msyn_34, mcn_34, mkd_34, msz_34, mct_34, men_34, mch_34, hc34, hf⟩ := bn9_e hf
        refine callVi (w1 := (wX3 cI m0 m1 m2 m3 m4 m5 mlim mkpt_34 msyn_34 mcn_34 mkd_34 msz_34 mct_34 men_34 mch_34)) (va_runV (As := [.int 0, .int x1, .int x2, .int 2, .int 0]) (rest := []) ⟨hx, hb, hml, hown, hts⟩ (cX3_attempt_met l dC dI cI m0 m1 m2 m3 m4 m5 mlim mkpt msyn mcn mkd msz mct men mch 0 x1 x2 2 0 r34 mkpt_34 msyn_34 mcn_34 mkd_34 msz_34 mct_34 men_34 mch_34 hc34) (cwV 5 hts gX3_create_81 rfl rfl rfl (by decide +kernel) ⟨Nat.le_of_ble_eq_true rfl, Nat.le_of_ble_eq_true rfl⟩) (preWV (ci := 3) (q0 := 0) hK hP hD rfl rfl) rfl rfl hl.1 rfl (lv_room (Nat.le_of_ble_eq_true rfl)) dX3_create_34 ⟨Nat.le_of_ble_eq_true rfl, Nat.le_of_ble_eq_true rfl⟩) hS hD rfl rfl (fun H locs hP hD hS => ?_)
        cases hf
        exact retI hx hb hr hlocks hP hS dX3_create_37
    · have hf := it_f c15 hf
      refine lv_iconst (v := -1) hx hb dX3_create_18 (by decide) ?_
      cases hf
      exact retI hx hb hr hlocks hP hS dX3_create_19
theorem gX3_link_78 : GoodIn wsX3_link (wsS RX3 78 yX3_out wsX3_out) := gIn (memS q_255 q_256 q_5 q_257)
theorem gX3_link_81 : GoodIn wsX3_link (wsV RX3 81 RX3 yX3_attempt wsX3_attempt) := gIn (memV q_258 q_259 q_350 q_5 q_260)
set_option maxHeartbeats 4000000 in
set_option maxRecDepth 100000 in
theorem cX3_link_met (l : Launch) (dC : Nat → ClassId) (dI : Nat → Nat → Nat) (cI : ClassId) (m0 m1 m2 m3 m4 m5 : Nat) (mlim : Int32) (mkpt : Int32) (msyn : Int32) (mcn : Int32) (mkd : Nat → Int32) (msz : Nat → Int32) (mct : Nat → Int32) (men : Nat → Int32) (mch : Nat → Int32) (x1 : Int32) (x2 : Int32) (x3 : Int32) (r : Int32) (mkpt_o : Int32) (msyn_o : Int32) (mcn_o : Int32) (mkd_o : Nat → Int32) (msz_o : Nat → Int32) (mct_o : Nat → Int32) (men_o : Nat → Int32) (mch_o : Nat → Int32) (hf : fX3_link x1 x2 x3 mlim mkpt msyn mcn mkd msz mct men mch = some (r, mkpt_o, msyn_o, mcn_o, mkd_o, msz_o, mct_o, men_o, mch_o)) : Met l yX3_link wsX3_link ({ frames := 4, cells := 0, slots := 0, locals := 92 } : Room) (pcW [.ref m0, .int x1, .int x2, .int x3] (dC, dI) vwCl [(cI, .int)] (wX3 cI m0 m1 m2 m3 m4 m5 mlim mkpt msyn mcn mkd msz mct men mch)) (qI r (va_P (dC, dI) vwCl (wX3 cI m0 m1 m2 m3 m4 m5 mlim mkpt_o msyn_o mcn_o mkd_o msz_o mct_o men_o mch_o)) (inA [m0, m1, m2, m3, m4, m5])) 0 0 (inA [m0, m1, m2, m3, m4, m5]) := by
  refine Met.ofW (cc := cX3_link) (maxL := 4) (ret := (some .int)) (by decide) rfl ?_
  intro p e s m args below meth c s₁ B hml hv
  obtain ⟨rfl, hP, hK, hD0⟩ := hv
  have hx := B.exec
  have hb := B.bytes
  have hr := B.returns
  have hts := atoms_spec (ws := wsX3_link) B.pre
  have hown : s.vm.findClass RX3 = some m.cls := findClass_of_methodNamed B.named
  have hlocks := B.notSynchronized
  have hD := my_self (as := [m0, m1, m2, m3, m4, m5]) hD0 rfl
  have hS : va_S (inA [m0, m1, m2, m3, m4, m5]) s.heap s.heap [] := va_S.rf
  have hl := lv_entry ([.ref m0, .int x1, .int x2, .int x3]) (n := 4) (Nat.le_of_ble_eq_true rfl)
  rw [lg_entry_eq]
  generalize (lg_sl ([.ref m0, .int x1, .int x2, .int x3]) ++ List.replicate (4 - (lg_sl ([.ref m0, .int x1, .int x2, .int x3])).length) Slot.unset).toArray = ls at hl ⊢
  have hl : lv_has ls 4 [(0, .ref m0), (1, .int x1), (2, .int x2), (3, .int x3)] := hl
  unfold fX3_link at hf
  refine lv_iload_n hx hb dX3_link_0 rfl (lv_at hl 1 rfl) ?_
  refine lv_bipush (v := 16) hx hb dX3_link_1 (by decide) ?_
  obtain ⟨r3, hc3, hf⟩ := bn1_e hf
  refine callRi (va_runS (As := [.int x1, .int 16]) (rest := []) ⟨hx, hb, hml, hown, hts⟩ (cX3_out_met l dC dI cI x1 16 r3 hc3) (cwS 2 hts gX3_link_78 rfl rfl rfl (by decide +kernel) ⟨Nat.le_of_ble_eq_true rfl, Nat.le_of_ble_eq_true rfl⟩) (preRS hK (hP.sub (ws' := []) [] rfl)) rfl rfl hl.1 rfl (lv_room (Nat.le_of_ble_eq_true rfl)) dX3_link_3 ⟨Nat.le_of_ble_eq_true rfl, Nat.le_of_ble_eq_true rfl⟩) hS hP (fun H locs hP hS => ?_)
  refine lv_if_ne (tgt := 27) hx hb dX3_link_6 (by decide) (fun c6 => ?_) (fun c6 => ?_)
  · have hf := it_f c6 hf
    refine lv_iconst (v := -1) hx hb dX3_link_27 (by decide) ?_
    cases hf
    exact retI hx hb hr hlocks hP hS dX3_link_28
  · have hf := it_t c6 hf
    refine lv_iload_n hx hb dX3_link_9 rfl (lv_at hl 2 rfl) ?_
    refine lv_bipush (v := 32) hx hb dX3_link_10 (by decide) ?_
    obtain ⟨r12, hc12, hf⟩ := bn1_e hf
    refine callRi (va_runS (As := [.int x2, .int 32]) (rest := []) ⟨hx, hb, hml, hown, hts⟩ (cX3_out_met l dC dI cI x2 32 r12 hc12) (cwS 2 hts gX3_link_78 rfl rfl rfl (by decide +kernel) ⟨Nat.le_of_ble_eq_true rfl, Nat.le_of_ble_eq_true rfl⟩) (preRS hK (hP.sub (ws' := []) [] rfl)) rfl rfl hl.1 rfl (lv_room (Nat.le_of_ble_eq_true rfl)) dX3_link_12 ⟨Nat.le_of_ble_eq_true rfl, Nat.le_of_ble_eq_true rfl⟩) hS hP (fun H locs hP hS => ?_)
    refine lv_if_ne (tgt := 27) hx hb dX3_link_15 (by decide) (fun c15 => ?_) (fun c15 => ?_)
    · have hf := it_f c15 hf
      refine lv_iconst (v := -1) hx hb dX3_link_27 (by decide) ?_
      cases hf
      exact retI hx hb hr hlocks hP hS dX3_link_28
    · have hf := it_t c15 hf
      refine lv_iload_n hx hb dX3_link_18 rfl (lv_at hl 3 rfl) ?_
      refine lv_bipush (v := 16) hx hb dX3_link_19 (by decide) ?_
      obtain ⟨r21, hc21, hf⟩ := bn1_e hf
      refine callRi (va_runS (As := [.int x3, .int 16]) (rest := []) ⟨hx, hb, hml, hown, hts⟩ (cX3_out_met l dC dI cI x3 16 r21 hc21) (cwS 2 hts gX3_link_78 rfl rfl rfl (by decide +kernel) ⟨Nat.le_of_ble_eq_true rfl, Nat.le_of_ble_eq_true rfl⟩) (preRS hK (hP.sub (ws' := []) [] rfl)) rfl rfl hl.1 rfl (lv_room (Nat.le_of_ble_eq_true rfl)) dX3_link_21 ⟨Nat.le_of_ble_eq_true rfl, Nat.le_of_ble_eq_true rfl⟩) hS hP (fun H locs hP hS => ?_)
      refine lv_if_eq (tgt := 29) hx hb dX3_link_24 (by decide) (fun c24 => ?_) (fun c24 => ?_)
      · have hf := it_t c24 hf
        refine lv_aload_n hx hb dX3_link_29 rfl (lv_at hl 0 rfl) ?_
        refine lv_iconst (v := 1) hx hb dX3_link_30 (by decide) ?_
        refine lv_iload_n hx hb dX3_link_31 rfl (lv_at hl 1 rfl) ?_
        refine lv_iload_n hx hb dX3_link_32 rfl (lv_at hl 2 rfl) ?_
        refine lv_iload_n hx hb dX3_link_33 rfl (lv_at hl 3 rfl) ?_
        refine lv_iconst (v := 0) hx hb dX3_link_34 (by decide) ?_
        obtain ⟨r35, mkpt_35, msyn_35, mcn_35, mkd_35, msz_35, mct_35, men_35, mch_35, hc35, hf⟩ := bn9_e hf
        refine callVi (w1 := (wX3 cI m0 m1 m2 m3 m4 m5 mlim mkpt_35 msyn_35 mcn_35 mkd_35 msz_35 mct_35 men_35 mch_35)) (va_runV (As := [.int 1, .int x1, .int x2, .int x3, .int 0]) (rest := []) ⟨hx, hb, hml, hown, hts⟩ (cX3_attempt_met l dC dI cI m0 m1 m2 m3 m4 m5 mlim mkpt msyn mcn mkd msz mct men mch 1 x1 x2 x3 0 r35 mkpt_35 msyn_35 mcn_35 mkd_35 msz_35 mct_35 men_35 mch_35 hc35) (cwV 5 hts gX3_link_81 rfl rfl rfl (by decide +kernel) ⟨Nat.le_of_ble_eq_true rfl, Nat.le_of_ble_eq_true rfl⟩) (preWV (ci := 3) (q0 := 0) hK hP hD rfl rfl) rfl rfl hl.1 rfl (lv_room (Nat.le_of_ble_eq_true rfl)) dX3_link_35 ⟨Nat.le_of_ble_eq_true rfl, Nat.le_of_ble_eq_true rfl⟩) hS hD rfl rfl (fun H locs hP hD hS => ?_)
        cases hf
        exact retI hx hb hr hlocks hP hS dX3_link_38
      · have hf := it_f c24 hf
        refine lv_iconst (v := -1) hx hb dX3_link_27 (by decide) ?_
        cases hf
        exact retI hx hb hr hlocks hP hS dX3_link_28
theorem gX3_remove_78 : GoodIn wsX3_remove (wsS RX3 78 yX3_out wsX3_out) := gIn (memS q_255 q_256 q_5 q_257)
theorem gX3_remove_81 : GoodIn wsX3_remove (wsV RX3 81 RX3 yX3_attempt wsX3_attempt) := gIn (memV q_258 q_259 q_350 q_5 q_260)
set_option maxHeartbeats 4000000 in
set_option maxRecDepth 100000 in
theorem cX3_remove_met (l : Launch) (dC : Nat → ClassId) (dI : Nat → Nat → Nat) (cI : ClassId) (m0 m1 m2 m3 m4 m5 : Nat) (mlim : Int32) (mkpt : Int32) (msyn : Int32) (mcn : Int32) (mkd : Nat → Int32) (msz : Nat → Int32) (mct : Nat → Int32) (men : Nat → Int32) (mch : Nat → Int32) (x1 : Int32) (x2 : Int32) (r : Int32) (mkpt_o : Int32) (msyn_o : Int32) (mcn_o : Int32) (mkd_o : Nat → Int32) (msz_o : Nat → Int32) (mct_o : Nat → Int32) (men_o : Nat → Int32) (mch_o : Nat → Int32) (hf : fX3_remove x1 x2 mlim mkpt msyn mcn mkd msz mct men mch = some (r, mkpt_o, msyn_o, mcn_o, mkd_o, msz_o, mct_o, men_o, mch_o)) : Met l yX3_remove wsX3_remove ({ frames := 4, cells := 0, slots := 0, locals := 92 } : Room) (pcW [.ref m0, .int x1, .int x2] (dC, dI) vwCl [(cI, .int)] (wX3 cI m0 m1 m2 m3 m4 m5 mlim mkpt msyn mcn mkd msz mct men mch)) (qI r (va_P (dC, dI) vwCl (wX3 cI m0 m1 m2 m3 m4 m5 mlim mkpt_o msyn_o mcn_o mkd_o msz_o mct_o men_o mch_o)) (inA [m0, m1, m2, m3, m4, m5])) 0 0 (inA [m0, m1, m2, m3, m4, m5]) := by
  refine Met.ofW (cc := cX3_remove) (maxL := 3) (ret := (some .int)) (by decide) rfl ?_
  intro p e s m args below meth c s₁ B hml hv
  obtain ⟨rfl, hP, hK, hD0⟩ := hv
  have hx := B.exec
  have hb := B.bytes
  have hr := B.returns
  have hts := atoms_spec (ws := wsX3_remove) B.pre
  have hown : s.vm.findClass RX3 = some m.cls := findClass_of_methodNamed B.named
  have hlocks := B.notSynchronized
  have hD := my_self (as := [m0, m1, m2, m3, m4, m5]) hD0 rfl
  have hS : va_S (inA [m0, m1, m2, m3, m4, m5]) s.heap s.heap [] := va_S.rf
  have hl := lv_entry ([.ref m0, .int x1, .int x2]) (n := 3) (Nat.le_of_ble_eq_true rfl)
  rw [lg_entry_eq]
  generalize (lg_sl ([.ref m0, .int x1, .int x2]) ++ List.replicate (3 - (lg_sl ([.ref m0, .int x1, .int x2])).length) Slot.unset).toArray = ls at hl ⊢
  have hl : lv_has ls 3 [(0, .ref m0), (1, .int x1), (2, .int x2)] := hl
  unfold fX3_remove at hf
  refine lv_iload_n hx hb dX3_remove_0 rfl (lv_at hl 1 rfl) ?_
  refine lv_bipush (v := 16) hx hb dX3_remove_1 (by decide) ?_
  obtain ⟨r3, hc3, hf⟩ := bn1_e hf
  refine callRi (va_runS (As := [.int x1, .int 16]) (rest := []) ⟨hx, hb, hml, hown, hts⟩ (cX3_out_met l dC dI cI x1 16 r3 hc3) (cwS 2 hts gX3_remove_78 rfl rfl rfl (by decide +kernel) ⟨Nat.le_of_ble_eq_true rfl, Nat.le_of_ble_eq_true rfl⟩) (preRS hK (hP.sub (ws' := []) [] rfl)) rfl rfl hl.1 rfl (lv_room (Nat.le_of_ble_eq_true rfl)) dX3_remove_3 ⟨Nat.le_of_ble_eq_true rfl, Nat.le_of_ble_eq_true rfl⟩) hS hP (fun H locs hP hS => ?_)
  refine lv_if_ne (tgt := 18) hx hb dX3_remove_6 (by decide) (fun c6 => ?_) (fun c6 => ?_)
  · have hf := it_f c6 hf
    refine lv_iconst (v := -1) hx hb dX3_remove_18 (by decide) ?_
    cases hf
    exact retI hx hb hr hlocks hP hS dX3_remove_19
  · have hf := it_t c6 hf
    refine lv_iload_n hx hb dX3_remove_9 rfl (lv_at hl 2 rfl) ?_
    refine lv_bipush (v := 32) hx hb dX3_remove_10 (by decide) ?_
    obtain ⟨r12, hc12, hf⟩ := bn1_e hf
    refine callRi (va_runS (As := [.int x2, .int 32]) (rest := []) ⟨hx, hb, hml, hown, hts⟩ (cX3_out_met l dC dI cI x2 32 r12 hc12) (cwS 2 hts gX3_remove_78 rfl rfl rfl (by decide +kernel) ⟨Nat.le_of_ble_eq_true rfl, Nat.le_of_ble_eq_true rfl⟩) (preRS hK (hP.sub (ws' := []) [] rfl)) rfl rfl hl.1 rfl (lv_room (Nat.le_of_ble_eq_true rfl)) dX3_remove_12 ⟨Nat.le_of_ble_eq_true rfl, Nat.le_of_ble_eq_true rfl⟩) hS hP (fun H locs hP hS => ?_)
    refine lv_if_eq (tgt := 20) hx hb dX3_remove_15 (by decide) (fun c15 => ?_) (fun c15 => ?_)
    · have hf := it_t c15 hf
      refine lv_aload_n hx hb dX3_remove_20 rfl (lv_at hl 0 rfl) ?_
      refine lv_iconst (v := 2) hx hb dX3_remove_21 (by decide) ?_
      refine lv_iload_n hx hb dX3_remove_22 rfl (lv_at hl 1 rfl) ?_
      refine lv_iload_n hx hb dX3_remove_23 rfl (lv_at hl 2 rfl) ?_
      refine lv_iconst (v := 0) hx hb dX3_remove_24 (by decide) ?_
      refine lv_iconst (v := 0) hx hb dX3_remove_25 (by decide) ?_
      obtain ⟨r26, mkpt_26, msyn_26, mcn_26, mkd_26, msz_26, mct_26, men_26, mch_26, hc26, hf⟩ := bn9_e hf
      refine callVi (w1 := (wX3 cI m0 m1 m2 m3 m4 m5 mlim mkpt_26 msyn_26 mcn_26 mkd_26 msz_26 mct_26 men_26 mch_26)) (va_runV (As := [.int 2, .int x1, .int x2, .int 0, .int 0]) (rest := []) ⟨hx, hb, hml, hown, hts⟩ (cX3_attempt_met l dC dI cI m0 m1 m2 m3 m4 m5 mlim mkpt msyn mcn mkd msz mct men mch 2 x1 x2 0 0 r26 mkpt_26 msyn_26 mcn_26 mkd_26 msz_26 mct_26 men_26 mch_26 hc26) (cwV 5 hts gX3_remove_81 rfl rfl rfl (by decide +kernel) ⟨Nat.le_of_ble_eq_true rfl, Nat.le_of_ble_eq_true rfl⟩) (preWV (ci := 3) (q0 := 0) hK hP hD rfl rfl) rfl rfl hl.1 rfl (lv_room (Nat.le_of_ble_eq_true rfl)) dX3_remove_26 ⟨Nat.le_of_ble_eq_true rfl, Nat.le_of_ble_eq_true rfl⟩) hS hD rfl rfl (fun H locs hP hD hS => ?_)
      cases hf
      exact retI hx hb hr hlocks hP hS dX3_remove_29
    · have hf := it_f c15 hf
      refine lv_iconst (v := -1) hx hb dX3_remove_18 (by decide) ?_
      cases hf
      exact retI hx hb hr hlocks hP hS dX3_remove_19
theorem gX3_rename_78 : GoodIn wsX3_rename (wsS RX3 78 yX3_out wsX3_out) := gIn (memS q_255 q_256 q_5 q_257)
theorem gX3_rename_81 : GoodIn wsX3_rename (wsV RX3 81 RX3 yX3_attempt wsX3_attempt) := gIn (memV q_258 q_259 q_350 q_5 q_260)
set_option maxHeartbeats 4000000 in
set_option maxRecDepth 100000 in
theorem cX3_rename_met (l : Launch) (dC : Nat → ClassId) (dI : Nat → Nat → Nat) (cI : ClassId) (m0 m1 m2 m3 m4 m5 : Nat) (mlim : Int32) (mkpt : Int32) (msyn : Int32) (mcn : Int32) (mkd : Nat → Int32) (msz : Nat → Int32) (mct : Nat → Int32) (men : Nat → Int32) (mch : Nat → Int32) (x1 : Int32) (x2 : Int32) (x3 : Int32) (x4 : Int32) (r : Int32) (mkpt_o : Int32) (msyn_o : Int32) (mcn_o : Int32) (mkd_o : Nat → Int32) (msz_o : Nat → Int32) (mct_o : Nat → Int32) (men_o : Nat → Int32) (mch_o : Nat → Int32) (hf : fX3_rename x1 x2 x3 x4 mlim mkpt msyn mcn mkd msz mct men mch = some (r, mkpt_o, msyn_o, mcn_o, mkd_o, msz_o, mct_o, men_o, mch_o)) : Met l yX3_rename wsX3_rename ({ frames := 4, cells := 0, slots := 0, locals := 92 } : Room) (pcW [.ref m0, .int x1, .int x2, .int x3, .int x4] (dC, dI) vwCl [(cI, .int)] (wX3 cI m0 m1 m2 m3 m4 m5 mlim mkpt msyn mcn mkd msz mct men mch)) (qI r (va_P (dC, dI) vwCl (wX3 cI m0 m1 m2 m3 m4 m5 mlim mkpt_o msyn_o mcn_o mkd_o msz_o mct_o men_o mch_o)) (inA [m0, m1, m2, m3, m4, m5])) 0 0 (inA [m0, m1, m2, m3, m4, m5]) := by
  refine Met.ofW (cc := cX3_rename) (maxL := 5) (ret := (some .int)) (by decide) rfl ?_
  intro p e s m args below meth c s₁ B hml hv
  obtain ⟨rfl, hP, hK, hD0⟩ := hv
  have hx := B.exec
  have hb := B.bytes
  have hr := B.returns
  have hts := atoms_spec (ws := wsX3_rename) B.pre
  have hown : s.vm.findClass RX3 = some m.cls := findClass_of_methodNamed B.named
  have hlocks := B.notSynchronized
  have hD := my_self (as := [m0, m1, m2, m3, m4, m5]) hD0 rfl
  have hS : va_S (inA [m0, m1, m2, m3, m4, m5]) s.heap s.heap [] := va_S.rf
  have hl := lv_entry ([.ref m0, .int x1, .int x2, .int x3, .int x4]) (n := 5) (Nat.le_of_ble_eq_true rfl)
  rw [lg_entry_eq]
  generalize (lg_sl ([.ref m0, .int x1, .int x2, .int x3, .int x4]) ++ List.replicate (5 - (lg_sl ([.ref m0, .int x1, .int x2, .int x3, .int x4])).length) Slot.unset).toArray = ls at hl ⊢
  have hl : lv_has ls 5 [(0, .ref m0), (1, .int x1), (2, .int x2), (3, .int x3), (4, .int x4)] := hl
  unfold fX3_rename at hf
  refine lv_iload_n hx hb dX3_rename_0 rfl (lv_at hl 1 rfl) ?_
  refine lv_bipush (v := 16) hx hb dX3_rename_1 (by decide) ?_
  obtain ⟨r3, hc3, hf⟩ := bn1_e hf
  refine callRi (va_runS (As := [.int x1, .int 16]) (rest := []) ⟨hx, hb, hml, hown, hts⟩ (cX3_out_met l dC dI cI x1 16 r3 hc3) (cwS 2 hts gX3_rename_78 rfl rfl rfl (by decide +kernel) ⟨Nat.le_of_ble_eq_true rfl, Nat.le_of_ble_eq_true rfl⟩) (preRS hK (hP.sub (ws' := []) [] rfl)) rfl rfl hl.1 rfl (lv_room (Nat.le_of_ble_eq_true rfl)) dX3_rename_3 ⟨Nat.le_of_ble_eq_true rfl, Nat.le_of_ble_eq_true rfl⟩) hS hP (fun H locs hP hS => ?_)
  refine lv_if_ne (tgt := 37) hx hb dX3_rename_6 (by decide) (fun c6 => ?_) (fun c6 => ?_)
  · have hf := it_f c6 hf
    refine lv_iconst (v := -1) hx hb dX3_rename_37 (by decide) ?_
    cases hf
    exact retI hx hb hr hlocks hP hS dX3_rename_38
  · have hf := it_t c6 hf
    refine lv_iload_n hx hb dX3_rename_9 rfl (lv_at hl 2 rfl) ?_
    refine lv_bipush (v := 32) hx hb dX3_rename_10 (by decide) ?_
    obtain ⟨r12, hc12, hf⟩ := bn1_e hf
    refine callRi (va_runS (As := [.int x2, .int 32]) (rest := []) ⟨hx, hb, hml, hown, hts⟩ (cX3_out_met l dC dI cI x2 32 r12 hc12) (cwS 2 hts gX3_rename_78 rfl rfl rfl (by decide +kernel) ⟨Nat.le_of_ble_eq_true rfl, Nat.le_of_ble_eq_true rfl⟩) (preRS hK (hP.sub (ws' := []) [] rfl)) rfl rfl hl.1 rfl (lv_room (Nat.le_of_ble_eq_true rfl)) dX3_rename_12 ⟨Nat.le_of_ble_eq_true rfl, Nat.le_of_ble_eq_true rfl⟩) hS hP (fun H locs hP hS => ?_)
    refine lv_if_ne (tgt := 37) hx hb dX3_rename_15 (by decide) (fun c15 => ?_) (fun c15 => ?_)
    · have hf := it_f c15 hf
      refine lv_iconst (v := -1) hx hb dX3_rename_37 (by decide) ?_
      cases hf
      exact retI hx hb hr hlocks hP hS dX3_rename_38
    · have hf := it_t c15 hf
      refine lv_iload_n hx hb dX3_rename_18 rfl (lv_at hl 3 rfl) ?_
      refine lv_bipush (v := 16) hx hb dX3_rename_19 (by decide) ?_
      obtain ⟨r21, hc21, hf⟩ := bn1_e hf
      refine callRi (va_runS (As := [.int x3, .int 16]) (rest := []) ⟨hx, hb, hml, hown, hts⟩ (cX3_out_met l dC dI cI x3 16 r21 hc21) (cwS 2 hts gX3_rename_78 rfl rfl rfl (by decide +kernel) ⟨Nat.le_of_ble_eq_true rfl, Nat.le_of_ble_eq_true rfl⟩) (preRS hK (hP.sub (ws' := []) [] rfl)) rfl rfl hl.1 rfl (lv_room (Nat.le_of_ble_eq_true rfl)) dX3_rename_21 ⟨Nat.le_of_ble_eq_true rfl, Nat.le_of_ble_eq_true rfl⟩) hS hP (fun H locs hP hS => ?_)
      refine lv_if_ne (tgt := 37) hx hb dX3_rename_24 (by decide) (fun c24 => ?_) (fun c24 => ?_)
      · have hf := it_f c24 hf
        refine lv_iconst (v := -1) hx hb dX3_rename_37 (by decide) ?_
        cases hf
        exact retI hx hb hr hlocks hP hS dX3_rename_38
      · have hf := it_t c24 hf
        refine lv_iload hx hb dX3_rename_27 (lv_at hl 4 rfl) ?_
        refine lv_bipush (v := 32) hx hb dX3_rename_29 (by decide) ?_
        obtain ⟨r31, hc31, hf⟩ := bn1_e hf
        refine callRi (va_runS (As := [.int x4, .int 32]) (rest := []) ⟨hx, hb, hml, hown, hts⟩ (cX3_out_met l dC dI cI x4 32 r31 hc31) (cwS 2 hts gX3_rename_78 rfl rfl rfl (by decide +kernel) ⟨Nat.le_of_ble_eq_true rfl, Nat.le_of_ble_eq_true rfl⟩) (preRS hK (hP.sub (ws' := []) [] rfl)) rfl rfl hl.1 rfl (lv_room (Nat.le_of_ble_eq_true rfl)) dX3_rename_31 ⟨Nat.le_of_ble_eq_true rfl, Nat.le_of_ble_eq_true rfl⟩) hS hP (fun H locs hP hS => ?_)
        refine lv_if_eq (tgt := 39) hx hb dX3_rename_34 (by decide) (fun c34 => ?_) (fun c34 => ?_)
        · have hf := it_t c34 hf
          refine lv_aload_n hx hb dX3_rename_39 rfl (lv_at hl 0 rfl) ?_
          refine lv_iconst (v := 3) hx hb dX3_rename_40 (by decide) ?_
          refine lv_iload_n hx hb dX3_rename_41 rfl (lv_at hl 1 rfl) ?_
          refine lv_iload_n hx hb dX3_rename_42 rfl (lv_at hl 2 rfl) ?_
          refine lv_iload_n hx hb dX3_rename_43 rfl (lv_at hl 3 rfl) ?_
          refine lv_iload hx hb dX3_rename_44 (lv_at hl 4 rfl) ?_
          obtain ⟨r46, mkpt_46, msyn_46, mcn_46, mkd_46, msz_46, mct_46, men_46, mch_46, hc46, hf⟩ := bn9_e hf
          refine callVi (w1 := (wX3 cI m0 m1 m2 m3 m4 m5 mlim mkpt_46 msyn_46 mcn_46 mkd_46 msz_46 mct_46 men_46 mch_46)) (va_runV (As := [.int 3, .int x1, .int x2, .int x3, .int x4]) (rest := []) ⟨hx, hb, hml, hown, hts⟩ (cX3_attempt_met l dC dI cI m0 m1 m2 m3 m4 m5 mlim mkpt msyn mcn mkd msz mct men mch 3 x1 x2 x3 x4 r46 mkpt_46 msyn_46 mcn_46 mkd_46 msz_46 mct_46 men_46 mch_46 hc46) (cwV 5 hts gX3_rename_81 rfl rfl rfl (by decide +kernel) ⟨Nat.le_of_ble_eq_true rfl, Nat.le_of_ble_eq_true rfl⟩) (preWV (ci := 3) (q0 := 0) hK hP hD rfl rfl) rfl rfl hl.1 rfl (lv_room (Nat.le_of_ble_eq_true rfl)) dX3_rename_46 ⟨Nat.le_of_ble_eq_true rfl, Nat.le_of_ble_eq_true rfl⟩) hS hD rfl rfl (fun H locs hP hD hS => ?_)
          cases hf
          exact retI hx hb hr hlocks hP hS dX3_rename_49
        · have hf := it_f c34 hf
          refine lv_iconst (v := -1) hx hb dX3_rename_37 (by decide) ?_
          cases hf
          exact retI hx hb hr hlocks hP hS dX3_rename_38
theorem gX3_write_78 : GoodIn wsX3_write (wsS RX3 78 yX3_out wsX3_out) := gIn (memS q_255 q_256 q_5 q_257)
theorem gX3_write_81 : GoodIn wsX3_write (wsV RX3 81 RX3 yX3_attempt wsX3_attempt) := gIn (memV q_258 q_259 q_350 q_5 q_260)
set_option maxHeartbeats 4000000 in
set_option maxRecDepth 100000 in
theorem cX3_write_met (l : Launch) (dC : Nat → ClassId) (dI : Nat → Nat → Nat) (cI : ClassId) (m0 m1 m2 m3 m4 m5 : Nat) (mlim : Int32) (mkpt : Int32) (msyn : Int32) (mcn : Int32) (mkd : Nat → Int32) (msz : Nat → Int32) (mct : Nat → Int32) (men : Nat → Int32) (mch : Nat → Int32) (x1 : Int32) (x2 : Int32) (x3 : Int32) (r : Int32) (mkpt_o : Int32) (msyn_o : Int32) (mcn_o : Int32) (mkd_o : Nat → Int32) (msz_o : Nat → Int32) (mct_o : Nat → Int32) (men_o : Nat → Int32) (mch_o : Nat → Int32) (hf : fX3_write x1 x2 x3 mlim mkpt msyn mcn mkd msz mct men mch = some (r, mkpt_o, msyn_o, mcn_o, mkd_o, msz_o, mct_o, men_o, mch_o)) : Met l yX3_write wsX3_write ({ frames := 4, cells := 0, slots := 0, locals := 92 } : Room) (pcW [.ref m0, .int x1, .int x2, .int x3] (dC, dI) vwCl [(cI, .int)] (wX3 cI m0 m1 m2 m3 m4 m5 mlim mkpt msyn mcn mkd msz mct men mch)) (qI r (va_P (dC, dI) vwCl (wX3 cI m0 m1 m2 m3 m4 m5 mlim mkpt_o msyn_o mcn_o mkd_o msz_o mct_o men_o mch_o)) (inA [m0, m1, m2, m3, m4, m5])) 0 0 (inA [m0, m1, m2, m3, m4, m5]) := by
  refine Met.ofW (cc := cX3_write) (maxL := 4) (ret := (some .int)) (by decide) rfl ?_
  intro p e s m args below meth c s₁ B hml hv
  obtain ⟨rfl, hP, hK, hD0⟩ := hv
  have hx := B.exec
  have hb := B.bytes
  have hr := B.returns
  have hts := atoms_spec (ws := wsX3_write) B.pre
  have hown : s.vm.findClass RX3 = some m.cls := findClass_of_methodNamed B.named
  have hlocks := B.notSynchronized
  have hD := my_self (as := [m0, m1, m2, m3, m4, m5]) hD0 rfl
  have hS : va_S (inA [m0, m1, m2, m3, m4, m5]) s.heap s.heap [] := va_S.rf
  have hl := lv_entry ([.ref m0, .int x1, .int x2, .int x3]) (n := 4) (Nat.le_of_ble_eq_true rfl)
  rw [lg_entry_eq]
  generalize (lg_sl ([.ref m0, .int x1, .int x2, .int x3]) ++ List.replicate (4 - (lg_sl ([.ref m0, .int x1, .int x2, .int x3])).length) Slot.unset).toArray = ls at hl ⊢
  have hl : lv_has ls 4 [(0, .ref m0), (1, .int x1), (2, .int x2), (3, .int x3)] := hl
  unfold fX3_write at hf
  refine lv_iload_n hx hb dX3_write_0 rfl (lv_at hl 1 rfl) ?_
  refine lv_bipush (v := 16) hx hb dX3_write_1 (by decide) ?_
  obtain ⟨r3, hc3, hf⟩ := bn1_e hf
  refine callRi (va_runS (As := [.int x1, .int 16]) (rest := []) ⟨hx, hb, hml, hown, hts⟩ (cX3_out_met l dC dI cI x1 16 r3 hc3) (cwS 2 hts gX3_write_78 rfl rfl rfl (by decide +kernel) ⟨Nat.le_of_ble_eq_true rfl, Nat.le_of_ble_eq_true rfl⟩) (preRS hK (hP.sub (ws' := []) [] rfl)) rfl rfl hl.1 rfl (lv_room (Nat.le_of_ble_eq_true rfl)) dX3_write_3 ⟨Nat.le_of_ble_eq_true rfl, Nat.le_of_ble_eq_true rfl⟩) hS hP (fun H locs hP hS => ?_)
  refine lv_if_ne (tgt := 18) hx hb dX3_write_6 (by decide) (fun c6 => ?_) (fun c6 => ?_)
  · have hf := it_f c6 hf
    refine lv_iconst (v := -1) hx hb dX3_write_18 (by decide) ?_
    cases hf
    exact retI hx hb hr hlocks hP hS dX3_write_19
  · have hf := it_t c6 hf
    refine lv_iload_n hx hb dX3_write_9 rfl (lv_at hl 2 rfl) ?_
    refine lv_bipush (v := 8) hx hb dX3_write_10 (by decide) ?_
    obtain ⟨r12, hc12, hf⟩ := bn1_e hf
    refine callRi (va_runS (As := [.int x2, .int 8]) (rest := []) ⟨hx, hb, hml, hown, hts⟩ (cX3_out_met l dC dI cI x2 8 r12 hc12) (cwS 2 hts gX3_write_78 rfl rfl rfl (by decide +kernel) ⟨Nat.le_of_ble_eq_true rfl, Nat.le_of_ble_eq_true rfl⟩) (preRS hK (hP.sub (ws' := []) [] rfl)) rfl rfl hl.1 rfl (lv_room (Nat.le_of_ble_eq_true rfl)) dX3_write_12 ⟨Nat.le_of_ble_eq_true rfl, Nat.le_of_ble_eq_true rfl⟩) hS hP (fun H locs hP hS => ?_)
    refine lv_if_eq (tgt := 20) hx hb dX3_write_15 (by decide) (fun c15 => ?_) (fun c15 => ?_)
    · have hf := it_t c15 hf
      refine lv_aload_n hx hb dX3_write_20 rfl (lv_at hl 0 rfl) ?_
      refine lv_iconst (v := 4) hx hb dX3_write_21 (by decide) ?_
      refine lv_iload_n hx hb dX3_write_22 rfl (lv_at hl 1 rfl) ?_
      refine lv_iload_n hx hb dX3_write_23 rfl (lv_at hl 2 rfl) ?_
      refine lv_iload_n hx hb dX3_write_24 rfl (lv_at hl 3 rfl) ?_
      refine lv_iconst (v := 0) hx hb dX3_write_25 (by decide) ?_
      obtain ⟨r26, mkpt_26, msyn_26, mcn_26, mkd_26, msz_26, mct_26, men_26, mch_26, hc26, hf⟩ := bn9_e hf
      refine callVi (w1 := (wX3 cI m0 m1 m2 m3 m4 m5 mlim mkpt_26 msyn_26 mcn_26 mkd_26 msz_26 mct_26 men_26 mch_26)) (va_runV (As := [.int 4, .int x1, .int x2, .int x3, .int 0]) (rest := []) ⟨hx, hb, hml, hown, hts⟩ (cX3_attempt_met l dC dI cI m0 m1 m2 m3 m4 m5 mlim mkpt msyn mcn mkd msz mct men mch 4 x1 x2 x3 0 r26 mkpt_26 msyn_26 mcn_26 mkd_26 msz_26 mct_26 men_26 mch_26 hc26) (cwV 5 hts gX3_write_81 rfl rfl rfl (by decide +kernel) ⟨Nat.le_of_ble_eq_true rfl, Nat.le_of_ble_eq_true rfl⟩) (preWV (ci := 3) (q0 := 0) hK hP hD rfl rfl) rfl rfl hl.1 rfl (lv_room (Nat.le_of_ble_eq_true rfl)) dX3_write_26 ⟨Nat.le_of_ble_eq_true rfl, Nat.le_of_ble_eq_true rfl⟩) hS hD rfl rfl (fun H locs hP hD hS => ?_)
      cases hf
      exact retI hx hb hr hlocks hP hS dX3_write_29
    · have hf := it_f c15 hf
      refine lv_iconst (v := -1) hx hb dX3_write_18 (by decide) ?_
      cases hf
      exact retI hx hb hr hlocks hP hS dX3_write_19
theorem gX3_cut_78 : GoodIn wsX3_cut (wsS RX3 78 yX3_out wsX3_out) := gIn (memS q_255 q_256 q_5 q_257)
theorem gX3_cut_81 : GoodIn wsX3_cut (wsV RX3 81 RX3 yX3_attempt wsX3_attempt) := gIn (memV q_258 q_259 q_350 q_5 q_260)
set_option maxHeartbeats 4000000 in
set_option maxRecDepth 100000 in
theorem cX3_cut_met (l : Launch) (dC : Nat → ClassId) (dI : Nat → Nat → Nat) (cI : ClassId) (m0 m1 m2 m3 m4 m5 : Nat) (mlim : Int32) (mkpt : Int32) (msyn : Int32) (mcn : Int32) (mkd : Nat → Int32) (msz : Nat → Int32) (mct : Nat → Int32) (men : Nat → Int32) (mch : Nat → Int32) (x1 : Int32) (x2 : Int32) (r : Int32) (mkpt_o : Int32) (msyn_o : Int32) (mcn_o : Int32) (mkd_o : Nat → Int32) (msz_o : Nat → Int32) (mct_o : Nat → Int32) (men_o : Nat → Int32) (mch_o : Nat → Int32) (hf : fX3_cut x1 x2 mlim mkpt msyn mcn mkd msz mct men mch = some (r, mkpt_o, msyn_o, mcn_o, mkd_o, msz_o, mct_o, men_o, mch_o)) : Met l yX3_cut wsX3_cut ({ frames := 4, cells := 0, slots := 0, locals := 92 } : Room) (pcW [.ref m0, .int x1, .int x2] (dC, dI) vwCl [(cI, .int)] (wX3 cI m0 m1 m2 m3 m4 m5 mlim mkpt msyn mcn mkd msz mct men mch)) (qI r (va_P (dC, dI) vwCl (wX3 cI m0 m1 m2 m3 m4 m5 mlim mkpt_o msyn_o mcn_o mkd_o msz_o mct_o men_o mch_o)) (inA [m0, m1, m2, m3, m4, m5])) 0 0 (inA [m0, m1, m2, m3, m4, m5]) := by
  refine Met.ofW (cc := cX3_cut) (maxL := 3) (ret := (some .int)) (by decide) rfl ?_
  intro p e s m args below meth c s₁ B hml hv
  obtain ⟨rfl, hP, hK, hD0⟩ := hv
  have hx := B.exec
  have hb := B.bytes
  have hr := B.returns
  have hts := atoms_spec (ws := wsX3_cut) B.pre
  have hown : s.vm.findClass RX3 = some m.cls := findClass_of_methodNamed B.named
  have hlocks := B.notSynchronized
  have hD := my_self (as := [m0, m1, m2, m3, m4, m5]) hD0 rfl
  have hS : va_S (inA [m0, m1, m2, m3, m4, m5]) s.heap s.heap [] := va_S.rf
  have hl := lv_entry ([.ref m0, .int x1, .int x2]) (n := 3) (Nat.le_of_ble_eq_true rfl)
  rw [lg_entry_eq]
  generalize (lg_sl ([.ref m0, .int x1, .int x2]) ++ List.replicate (3 - (lg_sl ([.ref m0, .int x1, .int x2])).length) Slot.unset).toArray = ls at hl ⊢
  have hl : lv_has ls 3 [(0, .ref m0), (1, .int x1), (2, .int x2)] := hl
  unfold fX3_cut at hf
  refine lv_iload_n hx hb dX3_cut_0 rfl (lv_at hl 1 rfl) ?_
  refine lv_bipush (v := 16) hx hb dX3_cut_1 (by decide) ?_
  obtain ⟨r3, hc3, hf⟩ := bn1_e hf
  refine callRi (va_runS (As := [.int x1, .int 16]) (rest := []) ⟨hx, hb, hml, hown, hts⟩ (cX3_out_met l dC dI cI x1 16 r3 hc3) (cwS 2 hts gX3_cut_78 rfl rfl rfl (by decide +kernel) ⟨Nat.le_of_ble_eq_true rfl, Nat.le_of_ble_eq_true rfl⟩) (preRS hK (hP.sub (ws' := []) [] rfl)) rfl rfl hl.1 rfl (lv_room (Nat.le_of_ble_eq_true rfl)) dX3_cut_3 ⟨Nat.le_of_ble_eq_true rfl, Nat.le_of_ble_eq_true rfl⟩) hS hP (fun H locs hP hS => ?_)
  refine lv_if_ne (tgt := 18) hx hb dX3_cut_6 (by decide) (fun c6 => ?_) (fun c6 => ?_)
  · have hf := it_f c6 hf
    refine lv_iconst (v := -1) hx hb dX3_cut_18 (by decide) ?_
    cases hf
    exact retI hx hb hr hlocks hP hS dX3_cut_19
  · have hf := it_t c6 hf
    refine lv_iload_n hx hb dX3_cut_9 rfl (lv_at hl 2 rfl) ?_
    refine lv_bipush (v := 9) hx hb dX3_cut_10 (by decide) ?_
    obtain ⟨r12, hc12, hf⟩ := bn1_e hf
    refine callRi (va_runS (As := [.int x2, .int 9]) (rest := []) ⟨hx, hb, hml, hown, hts⟩ (cX3_out_met l dC dI cI x2 9 r12 hc12) (cwS 2 hts gX3_cut_78 rfl rfl rfl (by decide +kernel) ⟨Nat.le_of_ble_eq_true rfl, Nat.le_of_ble_eq_true rfl⟩) (preRS hK (hP.sub (ws' := []) [] rfl)) rfl rfl hl.1 rfl (lv_room (Nat.le_of_ble_eq_true rfl)) dX3_cut_12 ⟨Nat.le_of_ble_eq_true rfl, Nat.le_of_ble_eq_true rfl⟩) hS hP (fun H locs hP hS => ?_)
    refine lv_if_eq (tgt := 20) hx hb dX3_cut_15 (by decide) (fun c15 => ?_) (fun c15 => ?_)
    · have hf := it_t c15 hf
      refine lv_aload_n hx hb dX3_cut_20 rfl (lv_at hl 0 rfl) ?_
      refine lv_iconst (v := 5) hx hb dX3_cut_21 (by decide) ?_
      refine lv_iload_n hx hb dX3_cut_22 rfl (lv_at hl 1 rfl) ?_
      refine lv_iload_n hx hb dX3_cut_23 rfl (lv_at hl 2 rfl) ?_
      refine lv_iconst (v := 0) hx hb dX3_cut_24 (by decide) ?_
      refine lv_iconst (v := 0) hx hb dX3_cut_25 (by decide) ?_
      obtain ⟨r26, mkpt_26, msyn_26, mcn_26, mkd_26, msz_26, mct_26, men_26, mch_26, hc26, hf⟩ := bn9_e hf
      refine callVi (w1 := (wX3 cI m0 m1 m2 m3 m4 m5 mlim mkpt_26 msyn_26 mcn_26 mkd_26 msz_26 mct_26 men_26 mch_26)) (va_runV (As := [.int 5, .int x1, .int x2, .int 0, .int 0]) (rest := []) ⟨hx, hb, hml, hown, hts⟩ (cX3_attempt_met l dC dI cI m0 m1 m2 m3 m4 m5 mlim mkpt msyn mcn mkd msz mct men mch 5 x1 x2 0 0 r26 mkpt_26 msyn_26 mcn_26 mkd_26 msz_26 mct_26 men_26 mch_26 hc26) (cwV 5 hts gX3_cut_81 rfl rfl rfl (by decide +kernel) ⟨Nat.le_of_ble_eq_true rfl, Nat.le_of_ble_eq_true rfl⟩) (preWV (ci := 3) (q0 := 0) hK hP hD rfl rfl) rfl rfl hl.1 rfl (lv_room (Nat.le_of_ble_eq_true rfl)) dX3_cut_26 ⟨Nat.le_of_ble_eq_true rfl, Nat.le_of_ble_eq_true rfl⟩) hS hD rfl rfl (fun H locs hP hD hS => ?_)
      cases hf
      exact retI hx hb hr hlocks hP hS dX3_cut_29
    · have hf := it_f c15 hf
      refine lv_iconst (v := -1) hx hb dX3_cut_18 (by decide) ?_
      cases hf
      exact retI hx hb hr hlocks hP hS dX3_cut_19
theorem gX3_crash_32 : GoodIn wsX3_crash (wsV RX3 32 RX3 yX3_copy wsX3_copy) := gIn (memV q_239 q_240 q_349 q_5 q_241)
theorem gX3_crash_84 : GoodIn wsX3_crash (wsV RX3 84 RX3 yX3_settle wsX3_settle) := gIn (memV q_286 q_287 q_358 q_5 q_288)
theorem gX3_crash_75 : GoodIn wsX3_crash (wsV RX3 75 RX3 yX3_perform wsX3_perform) := gIn (memV q_292 q_293 q_360 q_5 q_294)
set_option maxHeartbeats 4000000 in
set_option maxRecDepth 100000 in
theorem wbX3_crash_33 {p : Program} {l : Launch} {e : Env} {s : State} {m : MethodId} {args : Array Value} {below : List Frame} {meth : Method} {c : Code} {dC : Nat → ClassId} {dI : Nat → Nat → Nat} {cI : ClassId} (hx : p.tables.exec = Jvm.exec) (hb : c.code = cX3_crash) (hml : c.maxLocals = 4) (hown : s.vm.findClass RX3 = some m.cls) (hts : ∀ w ∈ wsX3_crash, w.before args s = true) (hr : meth.sig.returnType = (some .int)) (hlocks : meth.locks = false) (hK : va_K (dC, dI) vwCl [(cI, .int)] s) (m0 m1 m2 m3 m4 m5 : Nat) (mlim : Int32) (msyn : Int32) (mch : Nat → Int32) (r : Int32) (mkpt_o : Int32) (mcn_o : Int32) (mkd_o : Nat → Int32) (msz_o : Nat → Int32) (mct_o : Nat → Int32) (men_o : Nat → Int32) : ∀ (n : Nat), ∀ (x2 : Int32) (x3 : Int32) (mkpt : Int32) (mcn : Int32) (mkd : Nat → Int32) (msz : Nat → Int32) (mct : Nat → Int32) (men : Nat → Int32) (H : Heap) (locs : List Loc), va_P (dC, dI) vwCl (wX3 cI m0 m1 m2 m3 m4 m5 mlim mkpt msyn mcn mkd msz mct men mch) H → va_D (inA [m0, m1, m2, m3, m4, m5]) (wX3 cI m0 m1 m2 m3 m4 m5 mlim mkpt msyn mcn mkd msz mct men mch) → va_S (inA [m0, m1, m2, m3, m4, m5]) s.heap H locs → ∀ (ls : Array Slot), lv_has ls 4 [(0, .ref m0), (2, .int x2), (3, .int x3)] → fX3_crash_b33 mch n x2 x3 mkpt mcn mkd msz mct men = some (r, mkpt_o, mcn_o, mkd_o, msz_o, mct_o, men_o) → W p l e ({ frames := 2, cells := 0, slots := 0, locals := 49 } : Room) s m args below meth c H locs 0 0 (MQ below (qI r (va_P (dC, dI) vwCl (wX3 cI m0 m1 m2 m3 m4 m5 mlim mkpt_o msyn mcn_o mkd_o msz_o mct_o men_o mch)) (inA [m0, m1, m2, m3, m4, m5])) args s 0 0 (inA [m0, m1, m2, m3, m4, m5])) (F0 m 33 ls []) := by
  intro n
  induction n with
  | zero =>
    intro x2 x3 mkpt mcn mkd msz mct men H locs hP hD hS ls hl hf
    cases hf
  | succ n ih =>
    intro x2 x3 mkpt mcn mkd msz mct men H locs hP hD hS ls hl hf
    rw [fX3_crash_b33] at hf
    refine lv_iload_n hx hb dX3_crash_33 rfl (lv_at hl 2 rfl) ?_
    refine lv_iload_n hx hb dX3_crash_34 rfl (lv_at hl 1 rfl) ?_
    refine lv_icmp_ge (tgt := 97) hx hb dX3_crash_35 (by decide) (fun c35 => ?_) (fun c35 => ?_)
    · have hf := it_t c35 hf
      refine lv_aload_n hx hb dX3_crash_97 rfl (lv_at hl 0 rfl) ?_
      obtain ⟨mkpt_98, mcn_98, mkd_98, msz_98, mct_98, men_98, hc98, hf⟩ := bn6_e hf
      refine callVv (w1 := (wX3 cI m0 m1 m2 m3 m4 m5 mlim mkpt_98 msyn mcn_98 mkd_98 msz_98 mct_98 men_98 mch)) (va_runV (As := []) (rest := []) ⟨hx, hb, hml, hown, hts⟩ (cX3_settle_met l dC dI cI m0 m1 m2 m3 m4 m5 mlim mkpt msyn mcn mkd msz mct men mch mkpt_98 mcn_98 mkd_98 msz_98 mct_98 men_98 hc98) (cwV 0 hts gX3_crash_84 rfl rfl rfl (by decide +kernel) ⟨Nat.le_of_ble_eq_true rfl, Nat.le_of_ble_eq_true rfl⟩) (preWV (ci := 3) (q0 := 0) hK hP hD rfl rfl) rfl rfl hl.1 rfl (lv_room (Nat.le_of_ble_eq_true rfl)) dX3_crash_98 ⟨Nat.le_of_ble_eq_true rfl, Nat.le_of_ble_eq_true rfl⟩) hS hD rfl rfl (fun H locs hP hD hS => ?_)
      refine lv_iload_n hx hb dX3_crash_101 rfl (lv_at hl 1 rfl) ?_
      cases hf
      exact retI hx hb hr hlocks hP hS dX3_crash_102
    · have hf := it_f c35 hf
      refine lv_aload_n hx hb dX3_crash_38 rfl (lv_at hl 0 rfl) ?_
      refine lv_aload_n hx hb dX3_crash_39 rfl (lv_at hl 0 rfl) ?_
      refine va_get (D := (dC, dI)) (ci := 3) (v := .ref m5) (C := RX3) (T := TX3) (N := 9) hx hb hts (fun w h => mc (inX3 w h)) hown hK hP 0 rfl rfl 8 (by decide) (hts _ (mc q_250)) (fun _ h9 => h9) rfl dX3_crash_40 ?_
      refine lv_iconst (v := 5) hx hb dX3_crash_43 (by decide) ?_
      refine lv_iload_n hx hb dX3_crash_44 rfl (lv_at hl 2 rfl) ?_
      obtain ⟨v45, ev45, hf⟩ := slet_e hf
      refine lv_imul hx hb dX3_crash_45 ?_
      refine rw_nm ev45 ?_
      obtain ⟨hiv46, v46, ev46, hf⟩ := ard_e hf
      refine rw_ald hx hb hK hP 5 0 rfl rfl hiv46 ev46 dX3_crash_46 ?_
      refine lv_aload_n hx hb dX3_crash_47 rfl (lv_at hl 0 rfl) ?_
      refine va_get (D := (dC, dI)) (ci := 3) (v := .ref m5) (C := RX3) (T := TX3) (N := 9) hx hb hts (fun w h => mc (inX3 w h)) hown hK hP 0 rfl rfl 8 (by decide) (hts _ (mc q_250)) (fun _ h9 => h9) rfl dX3_crash_48 ?_
      refine lv_iconst (v := 5) hx hb dX3_crash_51 (by decide) ?_
      refine lv_iload_n hx hb dX3_crash_52 rfl (lv_at hl 2 rfl) ?_
      obtain ⟨v53, ev53, hf⟩ := slet_e hf
      refine lv_imul hx hb dX3_crash_53 ?_
      refine rw_nm ev53 ?_
      refine lv_iconst (v := 1) hx hb dX3_crash_54 (by decide) ?_
      obtain ⟨v55, ev55, hf⟩ := slet_e hf
      refine lv_iadd hx hb dX3_crash_55 ?_
      refine rw_nm ev55 ?_
      obtain ⟨hiv56, v56, ev56, hf⟩ := ard_e hf
      refine rw_ald hx hb hK hP 5 0 rfl rfl hiv56 ev56 dX3_crash_56 ?_
      refine lv_aload_n hx hb dX3_crash_57 rfl (lv_at hl 0 rfl) ?_
      refine va_get (D := (dC, dI)) (ci := 3) (v := .ref m5) (C := RX3) (T := TX3) (N := 9) hx hb hts (fun w h => mc (inX3 w h)) hown hK hP 0 rfl rfl 8 (by decide) (hts _ (mc q_250)) (fun _ h9 => h9) rfl dX3_crash_58 ?_
      refine lv_iconst (v := 5) hx hb dX3_crash_61 (by decide) ?_
      refine lv_iload_n hx hb dX3_crash_62 rfl (lv_at hl 2 rfl) ?_
      obtain ⟨v63, ev63, hf⟩ := slet_e hf
      refine lv_imul hx hb dX3_crash_63 ?_
      refine rw_nm ev63 ?_
      refine lv_iconst (v := 2) hx hb dX3_crash_64 (by decide) ?_
      obtain ⟨v65, ev65, hf⟩ := slet_e hf
      refine lv_iadd hx hb dX3_crash_65 ?_
      refine rw_nm ev65 ?_
      obtain ⟨hiv66, v66, ev66, hf⟩ := ard_e hf
      refine rw_ald hx hb hK hP 5 0 rfl rfl hiv66 ev66 dX3_crash_66 ?_
      refine lv_aload_n hx hb dX3_crash_67 rfl (lv_at hl 0 rfl) ?_
      refine va_get (D := (dC, dI)) (ci := 3) (v := .ref m5) (C := RX3) (T := TX3) (N := 9) hx hb hts (fun w h => mc (inX3 w h)) hown hK hP 0 rfl rfl 8 (by decide) (hts _ (mc q_250)) (fun _ h9 => h9) rfl dX3_crash_68 ?_
      refine lv_iconst (v := 5) hx hb dX3_crash_71 (by decide) ?_
      refine lv_iload_n hx hb dX3_crash_72 rfl (lv_at hl 2 rfl) ?_
      obtain ⟨v73, ev73, hf⟩ := slet_e hf
      refine lv_imul hx hb dX3_crash_73 ?_
      refine rw_nm ev73 ?_
      refine lv_iconst (v := 3) hx hb dX3_crash_74 (by decide) ?_
      obtain ⟨v75, ev75, hf⟩ := slet_e hf
      refine lv_iadd hx hb dX3_crash_75 ?_
      refine rw_nm ev75 ?_
      obtain ⟨hiv76, v76, ev76, hf⟩ := ard_e hf
      refine rw_ald hx hb hK hP 5 0 rfl rfl hiv76 ev76 dX3_crash_76 ?_
      refine lv_aload_n hx hb dX3_crash_77 rfl (lv_at hl 0 rfl) ?_
      refine va_get (D := (dC, dI)) (ci := 3) (v := .ref m5) (C := RX3) (T := TX3) (N := 9) hx hb hts (fun w h => mc (inX3 w h)) hown hK hP 0 rfl rfl 8 (by decide) (hts _ (mc q_250)) (fun _ h9 => h9) rfl dX3_crash_78 ?_
      refine lv_iconst (v := 5) hx hb dX3_crash_81 (by decide) ?_
      refine lv_iload_n hx hb dX3_crash_82 rfl (lv_at hl 2 rfl) ?_
      obtain ⟨v83, ev83, hf⟩ := slet_e hf
      refine lv_imul hx hb dX3_crash_83 ?_
      refine rw_nm ev83 ?_
      refine lv_iconst (v := 4) hx hb dX3_crash_84 (by decide) ?_
      obtain ⟨v85, ev85, hf⟩ := slet_e hf
      refine lv_iadd hx hb dX3_crash_85 ?_
      refine rw_nm ev85 ?_
      obtain ⟨hiv86, v86, ev86, hf⟩ := ard_e hf
      refine rw_ald hx hb hK hP 5 0 rfl rfl hiv86 ev86 dX3_crash_86 ?_
      obtain ⟨r87, mkd_87, msz_87, mct_87, men_87, hc87, hf⟩ := bn5_e hf
      refine callVi (w1 := (wX3 cI m0 m1 m2 m3 m4 m5 mlim mkpt msyn mcn mkd_87 msz_87 mct_87 men_87 mch)) (va_runV (As := [.int v46, .int v56, .int v66, .int v76, .int v86]) (rest := []) ⟨hx, hb, hml, hown, hts⟩ (cX3_perform_met l dC dI cI m0 m1 m2 m3 m4 m5 mlim mkpt msyn mcn mkd msz mct men mch v46 v56 v66 v76 v86 r87 mkd_87 msz_87 mct_87 men_87 hc87) (cwV 5 hts gX3_crash_75 rfl rfl rfl (by decide +kernel) ⟨Nat.le_of_ble_eq_true rfl, Nat.le_of_ble_eq_true rfl⟩) (preWV (ci := 3) (q0 := 0) hK hP hD rfl rfl) rfl rfl hl.1 rfl (lv_room (Nat.le_of_ble_eq_true rfl)) dX3_crash_87 ⟨Nat.le_of_ble_eq_true rfl, Nat.le_of_ble_eq_true rfl⟩) hS hD rfl rfl (fun H locs hP hD hS => ?_)
      refine lv_pop hx hb dX3_crash_90 rfl ?_
      obtain ⟨v91, ev91, hf⟩ := slet_e hf
      refine lv_iinc (v := v91) (lv' := [(3, .int v91), (0, .ref m0), (2, .int x2)]) hx hb dX3_crash_91 hl (k := 2) rfl (by rw [ev91]; rfl) (by decide) rfl (fun ls hl => ?_)
      refine lv_goto (tgt := 33) hx hb dX3_crash_94 (by decide) ?_
      exact ih x2 v91 mkpt mcn mkd_87 msz_87 mct_87 men_87 _ _ hP hD hS _ (lv_sub hl [1, 2, 0] rfl) hf
set_option maxHeartbeats 4000000 in
set_option maxRecDepth 100000 in
theorem wbX3_crash_24 {p : Program} {l : Launch} {e : Env} {s : State} {m : MethodId} {args : Array Value} {below : List Frame} {meth : Method} {c : Code} {dC : Nat → ClassId} {dI : Nat → Nat → Nat} {cI : ClassId} (hx : p.tables.exec = Jvm.exec) (hb : c.code = cX3_crash) (hml : c.maxLocals = 4) (hown : s.vm.findClass RX3 = some m.cls) (hts : ∀ w ∈ wsX3_crash, w.before args s = true) (hr : meth.sig.returnType = (some .int)) (hlocks : meth.locks = false) (hK : va_K (dC, dI) vwCl [(cI, .int)] s) (m0 m1 m2 m3 m4 m5 : Nat) (mlim : Int32) (msyn : Int32) (mch : Nat → Int32) (r : Int32) (mkpt_o : Int32) (mcn_o : Int32) (mkd_o : Nat → Int32) (msz_o : Nat → Int32) (mct_o : Nat → Int32) (men_o : Nat → Int32) : ∀ (z0 : Int32) (mkpt : Int32) (mcn : Int32) (mkd : Nat → Int32) (msz : Nat → Int32) (mct : Nat → Int32) (men : Nat → Int32) (H : Heap) (locs : List Loc), va_P (dC, dI) vwCl (wX3 cI m0 m1 m2 m3 m4 m5 mlim mkpt msyn mcn mkd msz mct men mch) H → va_D (inA [m0, m1, m2, m3, m4, m5]) (wX3 cI m0 m1 m2 m3 m4 m5 mlim mkpt msyn mcn mkd msz mct men mch) → va_S (inA [m0, m1, m2, m3, m4, m5]) s.heap H locs → ∀ (ls : Array Slot), lv_has ls 4 [(0, .ref m0)] → fX3_crash_b24 mch z0 mkpt mcn mkd msz mct men = some (r, mkpt_o, mcn_o, mkd_o, msz_o, mct_o, men_o) → W p l e ({ frames := 2, cells := 0, slots := 0, locals := 49 } : Room) s m args below meth c H locs 0 0 (MQ below (qI r (va_P (dC, dI) vwCl (wX3 cI m0 m1 m2 m3 m4 m5 mlim mkpt_o msyn mcn_o mkd_o msz_o mct_o men_o mch)) (inA [m0, m1, m2, m3, m4, m5])) args s 0 0 (inA [m0, m1, m2, m3, m4, m5])) (F0 m 24 ls [.int z0]) := by
  intro z0 mkpt mcn mkd msz mct men H locs hP hD hS ls hl hf
  unfold fX3_crash_b24 at hf
  refine lv_istore_n (lv' := [(2, .int z0), (0, .ref m0)]) hx hb dX3_crash_24 rfl hl (by decide) rfl (fun ls hl => ?_)
  refine lv_aload_n hx hb dX3_crash_25 rfl (lv_at hl 1 rfl) ?_
  refine lv_iconst (v := 1) hx hb dX3_crash_26 (by decide) ?_
  refine lv_iconst (v := 0) hx hb dX3_crash_27 (by decide) ?_
  obtain ⟨mkd_28, msz_28, mct_28, men_28, hc28, hf⟩ := bn4_e hf
  refine callVv (w1 := (wX3 cI m0 m1 m2 m3 m4 m5 mlim mkpt msyn mcn mkd_28 msz_28 mct_28 men_28 mch)) (va_runV (As := [.int 1, .int 0]) (rest := []) ⟨hx, hb, hml, hown, hts⟩ (cX3_copy_met l dC dI cI m0 m1 m2 m3 m4 m5 mlim mkpt msyn mcn mkd msz mct men mch 1 0 mkd_28 msz_28 mct_28 men_28 hc28) (cwV 2 hts gX3_crash_32 rfl rfl rfl (by decide +kernel) ⟨Nat.le_of_ble_eq_true rfl, Nat.le_of_ble_eq_true rfl⟩) (preWV (ci := 3) (q0 := 0) hK hP hD rfl rfl) rfl rfl hl.1 rfl (lv_room (Nat.le_of_ble_eq_true rfl)) dX3_crash_28 ⟨Nat.le_of_ble_eq_true rfl, Nat.le_of_ble_eq_true rfl⟩) hS hD rfl rfl (fun H locs hP hD hS => ?_)
  refine lv_iconst (v := 0) hx hb dX3_crash_31 (by decide) ?_
  refine lv_istore_n (lv' := [(3, .int 0), (2, .int z0), (0, .ref m0)]) hx hb dX3_crash_32 rfl hl (by decide) rfl (fun ls hl => ?_)
  exact wbX3_crash_33 hx hb hml hown hts hr hlocks hK m0 m1 m2 m3 m4 m5 mlim msyn mch r mkpt_o mcn_o mkd_o msz_o mct_o men_o 2000 z0 0 mkpt mcn mkd_28 msz_28 mct_28 men_28 _ _ hP hD hS _ (lv_sub hl [2, 1, 0] rfl) hf
set_option maxHeartbeats 4000000 in
set_option maxRecDepth 100000 in
theorem cX3_crash_met (l : Launch) (dC : Nat → ClassId) (dI : Nat → Nat → Nat) (cI : ClassId) (m0 m1 m2 m3 m4 m5 : Nat) (mlim : Int32) (mkpt : Int32) (msyn : Int32) (mcn : Int32) (mkd : Nat → Int32) (msz : Nat → Int32) (mct : Nat → Int32) (men : Nat → Int32) (mch : Nat → Int32) (x1 : Int32) (r : Int32) (mkpt_o : Int32) (mcn_o : Int32) (mkd_o : Nat → Int32) (msz_o : Nat → Int32) (mct_o : Nat → Int32) (men_o : Nat → Int32) (hf : fX3_crash x1 mch mkpt mcn mkd msz mct men = some (r, mkpt_o, mcn_o, mkd_o, msz_o, mct_o, men_o)) : Met l yX3_crash wsX3_crash ({ frames := 2, cells := 0, slots := 0, locals := 49 } : Room) (pcW [.ref m0, .int x1] (dC, dI) vwCl [(cI, .int)] (wX3 cI m0 m1 m2 m3 m4 m5 mlim mkpt msyn mcn mkd msz mct men mch)) (qI r (va_P (dC, dI) vwCl (wX3 cI m0 m1 m2 m3 m4 m5 mlim mkpt_o msyn mcn_o mkd_o msz_o mct_o men_o mch)) (inA [m0, m1, m2, m3, m4, m5])) 0 0 (inA [m0, m1, m2, m3, m4, m5]) := by
  refine Met.ofW (cc := cX3_crash) (maxL := 4) (ret := (some .int)) (by decide) rfl ?_
  intro p e s m args below meth c s₁ B hml hv
  obtain ⟨rfl, hP, hK, hD0⟩ := hv
  have hx := B.exec
  have hb := B.bytes
  have hr := B.returns
  have hts := atoms_spec (ws := wsX3_crash) B.pre
  have hown : s.vm.findClass RX3 = some m.cls := findClass_of_methodNamed B.named
  have hlocks := B.notSynchronized
  have hD := my_self (as := [m0, m1, m2, m3, m4, m5]) hD0 rfl
  have hS : va_S (inA [m0, m1, m2, m3, m4, m5]) s.heap s.heap [] := va_S.rf
  have hl := lv_entry ([.ref m0, .int x1]) (n := 4) (Nat.le_of_ble_eq_true rfl)
  rw [lg_entry_eq]
  generalize (lg_sl ([.ref m0, .int x1]) ++ List.replicate (4 - (lg_sl ([.ref m0, .int x1])).length) Slot.unset).toArray = ls at hl ⊢
  have hl : lv_has ls 4 [(0, .ref m0), (1, .int x1)] := hl
  unfold fX3_crash at hf
  refine lv_iload_n hx hb dX3_crash_0 rfl (lv_at hl 1 rfl) ?_
  refine lv_if_ge (tgt := 8) hx hb dX3_crash_1 (by decide) (fun c1 => ?_) (fun c1 => ?_)
  · have hf := it_t c1 hf
    refine lv_iload_n hx hb dX3_crash_8 rfl (lv_at hl 1 rfl) ?_
    refine lv_aload_n hx hb dX3_crash_9 rfl (lv_at hl 0 rfl) ?_
    refine va_get (D := (dC, dI)) (ci := 3) (v := .int mcn) (C := RX3) (T := TX3) (N := 9) hx hb hts (fun w h => mc (inX3 w h)) hown hK hP 0 rfl rfl 7 (by decide) (hts _ (mc q_249)) (fun _ h9 => h9) rfl dX3_crash_10 ?_
    refine lv_icmp_le (tgt := 23) hx hb dX3_crash_13 (by decide) (fun c13 => ?_) (fun c13 => ?_)
    · have hf := it_t c13 hf
      refine lv_iload_n hx hb dX3_crash_23 rfl (lv_at hl 1 rfl) ?_
      exact wbX3_crash_24 hx hb hml hown hts hr hlocks hK m0 m1 m2 m3 m4 m5 mlim msyn mch r mkpt_o mcn_o mkd_o msz_o mct_o men_o x1 mkpt mcn mkd msz mct men _ _ hP hD hS _ (lv_sub hl [0] rfl) hf
    · have hf := it_f c13 hf
      refine lv_aload_n hx hb dX3_crash_16 rfl (lv_at hl 0 rfl) ?_
      refine va_get (D := (dC, dI)) (ci := 3) (v := .int mcn) (C := RX3) (T := TX3) (N := 9) hx hb hts (fun w h => mc (inX3 w h)) hown hK hP 0 rfl rfl 7 (by decide) (hts _ (mc q_249)) (fun _ h9 => h9) rfl dX3_crash_17 ?_
      refine lv_goto (tgt := 24) hx hb dX3_crash_20 (by decide) ?_
      exact wbX3_crash_24 hx hb hml hown hts hr hlocks hK m0 m1 m2 m3 m4 m5 mlim msyn mch r mkpt_o mcn_o mkd_o msz_o mct_o men_o mcn mkpt mcn mkd msz mct men _ _ hP hD hS _ (lv_sub hl [0] rfl) hf
  · have hf := it_f c1 hf
    refine lv_iconst (v := 0) hx hb dX3_crash_4 (by decide) ?_
    refine lv_goto (tgt := 24) hx hb dX3_crash_5 (by decide) ?_
    exact wbX3_crash_24 hx hb hml hown hts hr hlocks hK m0 m1 m2 m3 m4 m5 mlim msyn mch r mkpt_o mcn_o mkd_o msz_o mct_o men_o 0 mkpt mcn mkd msz mct men _ _ hP hD hS _ (lv_sub hl [0] rfl) hf
theorem gX3_find_78 : GoodIn wsX3_find (wsS RX3 78 yX3_out wsX3_out) := gIn (memS q_255 q_256 q_5 q_257)
theorem gX3_find_36 : GoodIn wsX3_find (wsV RX3 36 RX3 yX3_isDir wsX3_isDir) := gIn (memV q_264 q_265 q_352 q_5 q_266)
set_option maxHeartbeats 4000000 in
set_option maxRecDepth 100000 in
theorem cX3_find_met (l : Launch) (dC : Nat → ClassId) (dI : Nat → Nat → Nat) (cI : ClassId) (m0 m1 m2 m3 m4 m5 : Nat) (mlim : Int32) (mkpt : Int32) (msyn : Int32) (mcn : Int32) (mkd : Nat → Int32) (msz : Nat → Int32) (mct : Nat → Int32) (men : Nat → Int32) (mch : Nat → Int32) (x1 : Int32) (x2 : Int32) (r : Int32) (hf : fX3_find x1 x2 mkd men = some r) : Met l yX3_find wsX3_find ({ frames := 1, cells := 0, slots := 0, locals := 21 } : Room) (pcR [.ref m0, .int x1, .int x2] (dC, dI) vwCl [(cI, .int)] (wX3 cI m0 m1 m2 m3 m4 m5 mlim mkpt msyn mcn mkd msz mct men mch)) (qI r pT aN) 0 0 aN := by
  refine Met.ofW (cc := cX3_find) (maxL := 3) (ret := (some .int)) (by decide) rfl ?_
  intro p e s m args below meth c s₁ B hml hv
  obtain ⟨rfl, hP, hK⟩ := hv
  have hx := B.exec
  have hb := B.bytes
  have hr := B.returns
  have hts := atoms_spec (ws := wsX3_find) B.pre
  have hown : s.vm.findClass RX3 = some m.cls := findClass_of_methodNamed B.named
  have hlocks := B.notSynchronized
  have hS : va_S aN s.heap s.heap [] := va_S.rf
  have hl := lv_entry ([.ref m0, .int x1, .int x2]) (n := 3) (Nat.le_of_ble_eq_true rfl)
  rw [lg_entry_eq]
  generalize (lg_sl ([.ref m0, .int x1, .int x2]) ++ List.replicate (3 - (lg_sl ([.ref m0, .int x1, .int x2])).length) Slot.unset).toArray = ls at hl ⊢
  have hl : lv_has ls 3 [(0, .ref m0), (1, .int x1), (2, .int x2)] := hl
  unfold fX3_find at hf
  refine lv_iload_n hx hb dX3_find_0 rfl (lv_at hl 1 rfl) ?_
  refine lv_bipush (v := 16) hx hb dX3_find_1 (by decide) ?_
  obtain ⟨r3, hc3, hf⟩ := bn1_e hf
  refine callRi (va_runS (As := [.int x1, .int 16]) (rest := []) ⟨hx, hb, hml, hown, hts⟩ (cX3_out_met l dC dI cI x1 16 r3 hc3) (cwS 2 hts gX3_find_78 rfl rfl rfl (by decide +kernel) ⟨Nat.le_of_ble_eq_true rfl, Nat.le_of_ble_eq_true rfl⟩) (preRS hK (hP.sub (ws' := []) [] rfl)) rfl rfl hl.1 rfl (lv_room (Nat.le_of_ble_eq_true rfl)) dX3_find_3 ⟨Nat.le_of_ble_eq_true rfl, Nat.le_of_ble_eq_true rfl⟩) hS hP (fun H locs hP hS => ?_)
  refine lv_if_ne (tgt := 18) hx hb dX3_find_6 (by decide) (fun c6 => ?_) (fun c6 => ?_)
  · have hf := it_f c6 hf
    refine lv_iconst (v := -1) hx hb dX3_find_18 (by decide) ?_
    cases hf
    exact retI hx hb hr hlocks trivial hS dX3_find_19
  · have hf := it_t c6 hf
    refine lv_iload_n hx hb dX3_find_9 rfl (lv_at hl 2 rfl) ?_
    refine lv_bipush (v := 32) hx hb dX3_find_10 (by decide) ?_
    obtain ⟨r12, hc12, hf⟩ := bn1_e hf
    refine callRi (va_runS (As := [.int x2, .int 32]) (rest := []) ⟨hx, hb, hml, hown, hts⟩ (cX3_out_met l dC dI cI x2 32 r12 hc12) (cwS 2 hts gX3_find_78 rfl rfl rfl (by decide +kernel) ⟨Nat.le_of_ble_eq_true rfl, Nat.le_of_ble_eq_true rfl⟩) (preRS hK (hP.sub (ws' := []) [] rfl)) rfl rfl hl.1 rfl (lv_room (Nat.le_of_ble_eq_true rfl)) dX3_find_12 ⟨Nat.le_of_ble_eq_true rfl, Nat.le_of_ble_eq_true rfl⟩) hS hP (fun H locs hP hS => ?_)
    refine lv_if_eq (tgt := 20) hx hb dX3_find_15 (by decide) (fun c15 => ?_) (fun c15 => ?_)
    · have hf := it_t c15 hf
      refine lv_aload_n hx hb dX3_find_20 rfl (lv_at hl 0 rfl) ?_
      refine lv_iload_n hx hb dX3_find_21 rfl (lv_at hl 1 rfl) ?_
      obtain ⟨r22, hc22, hf⟩ := bn1_e hf
      refine callRi (va_runV (As := [.int x1]) (rest := []) ⟨hx, hb, hml, hown, hts⟩ (cX3_isDir_met l dC dI cI m0 m1 m2 m3 m4 m5 mlim mkpt msyn mcn mkd msz mct men mch x1 r22 hc22) (cwV 1 hts gX3_find_36 rfl rfl rfl (by decide +kernel) ⟨Nat.le_of_ble_eq_true rfl, Nat.le_of_ble_eq_true rfl⟩) (preRV (ci := 3) (q0 := 0) hK hP rfl rfl) rfl rfl hl.1 rfl (lv_room (Nat.le_of_ble_eq_true rfl)) dX3_find_22 ⟨Nat.le_of_ble_eq_true rfl, Nat.le_of_ble_eq_true rfl⟩) hS hP (fun H locs hP hS => ?_)
      refine lv_if_eq (tgt := 56) hx hb dX3_find_25 (by decide) (fun c25 => ?_) (fun c25 => ?_)
      · have hf := it_t c25 hf
        refine lv_bipush (v := -2) hx hb dX3_find_56 (by decide) ?_
        cases hf
        exact retI hx hb hr hlocks trivial hS dX3_find_58
      · have hf := it_f c25 hf
        refine lv_aload_n hx hb dX3_find_28 rfl (lv_at hl 0 rfl) ?_
        refine va_get (D := (dC, dI)) (ci := 3) (v := .ref m4) (C := RX3) (T := TX3) (N := 9) hx hb hts (fun w h => mc (inX3 w h)) hown hK hP 0 rfl rfl 4 (by decide) (hts _ (mc q_246)) (fun _ h9 => h9) rfl dX3_find_29 ?_
        refine lv_bipush (v := 32) hx hb dX3_find_32 (by decide) ?_
        refine lv_iload_n hx hb dX3_find_34 rfl (lv_at hl 1 rfl) ?_
        obtain ⟨v35, ev35, hf⟩ := slet_e hf
        refine lv_imul hx hb dX3_find_35 ?_
        refine rw_nm ev35 ?_
        refine lv_iload_n hx hb dX3_find_36 rfl (lv_at hl 2 rfl) ?_
        obtain ⟨v37, ev37, hf⟩ := slet_e hf
        refine lv_iadd hx hb dX3_find_37 ?_
        refine rw_nm ev37 ?_
        obtain ⟨hiv38, v38, ev38, hf⟩ := ard_e hf
        refine rw_ald hx hb hK hP 4 0 rfl rfl hiv38 ev38 dX3_find_38 ?_
        refine lv_if_lt (tgt := 56) hx hb dX3_find_39 (by decide) (fun c39 => ?_) (fun c39 => ?_)
        · have hf := it_t c39 hf
          refine lv_bipush (v := -2) hx hb dX3_find_56 (by decide) ?_
          cases hf
          exact retI hx hb hr hlocks trivial hS dX3_find_58
        · have hf := it_f c39 hf
          refine lv_aload_n hx hb dX3_find_42 rfl (lv_at hl 0 rfl) ?_
          refine va_get (D := (dC, dI)) (ci := 3) (v := .ref m4) (C := RX3) (T := TX3) (N := 9) hx hb hts (fun w h => mc (inX3 w h)) hown hK hP 0 rfl rfl 4 (by decide) (hts _ (mc q_246)) (fun _ h9 => h9) rfl dX3_find_43 ?_
          refine lv_bipush (v := 32) hx hb dX3_find_46 (by decide) ?_
          refine lv_iload_n hx hb dX3_find_48 rfl (lv_at hl 1 rfl) ?_
          obtain ⟨v49, ev49, hf⟩ := slet_e hf
          refine lv_imul hx hb dX3_find_49 ?_
          refine rw_nm ev49 ?_
          refine lv_iload_n hx hb dX3_find_50 rfl (lv_at hl 2 rfl) ?_
          obtain ⟨v51, ev51, hf⟩ := slet_e hf
          refine lv_iadd hx hb dX3_find_51 ?_
          refine rw_nm ev51 ?_
          obtain ⟨hiv52, v52, ev52, hf⟩ := ard_e hf
          refine rw_ald hx hb hK hP 4 0 rfl rfl hiv52 ev52 dX3_find_52 ?_
          refine lv_goto (tgt := 58) hx hb dX3_find_53 (by decide) ?_
          cases hf
          exact retI hx hb hr hlocks trivial hS dX3_find_58
    · have hf := it_f c15 hf
      refine lv_iconst (v := -1) hx hb dX3_find_18 (by decide) ?_
      cases hf
      exact retI hx hb hr hlocks trivial hS dX3_find_19
theorem gX3_entry_78 : GoodIn wsX3_entry (wsS RX3 78 yX3_out wsX3_out) := gIn (memS q_255 q_256 q_5 q_257)
theorem gX3_entry_36 : GoodIn wsX3_entry (wsV RX3 36 RX3 yX3_isDir wsX3_isDir) := gIn (memV q_264 q_265 q_352 q_5 q_266)
set_option maxHeartbeats 4000000 in
set_option maxRecDepth 100000 in
theorem wbX3_entry_27 {p : Program} {l : Launch} {e : Env} {s : State} {m : MethodId} {args : Array Value} {below : List Frame} {meth : Method} {c : Code} {dC : Nat → ClassId} {dI : Nat → Nat → Nat} {cI : ClassId} (hx : p.tables.exec = Jvm.exec) (hb : c.code = cX3_entry) (hml : c.maxLocals = 5) (hown : s.vm.findClass RX3 = some m.cls) (hts : ∀ w ∈ wsX3_entry, w.before args s = true) (hr : meth.sig.returnType = (some .int)) (hlocks : meth.locks = false) (hK : va_K (dC, dI) vwCl [(cI, .int)] s) (m0 m1 m2 m3 m4 m5 : Nat) (mlim : Int32) (mkpt : Int32) (msyn : Int32) (mcn : Int32) (mkd : Nat → Int32) (msz : Nat → Int32) (mct : Nat → Int32) (men : Nat → Int32) (mch : Nat → Int32) (r : Int32) : ∀ (n : Nat), ∀ (x1 : Int32) (x2 : Int32) (x3 : Int32) (x4 : Int32) (H : Heap) (locs : List Loc), va_P (dC, dI) vwCl (wX3 cI m0 m1 m2 m3 m4 m5 mlim mkpt msyn mcn mkd msz mct men mch) H → va_S aN s.heap H locs → ∀ (ls : Array Slot), lv_has ls 5 [(0, .ref m0), (1, .int x1), (2, .int x2), (3, .int x3), (4, .int x4)] → fX3_entry_b27 mkd men n x1 x2 x3 x4 = some r → W p l e ({ frames := 1, cells := 0, slots := 0, locals := 21 } : Room) s m args below meth c H locs 0 0 (MQ below (qI r pT aN) args s 0 0 aN) (F0 m 27 ls []) := by
  intro n
  induction n with
  | zero =>
    intro x1 x2 x3 x4 H locs hP hS ls hl hf
    cases hf
  | succ n ih =>
    intro x1 x2 x3 x4 H locs hP hS ls hl hf
    rw [fX3_entry_b27] at hf
    refine lv_iload hx hb dX3_entry_27 (lv_at hl 4 rfl) ?_
    refine lv_bipush (v := 32) hx hb dX3_entry_29 (by decide) ?_
    refine lv_icmp_ge (tgt := 69) hx hb dX3_entry_31 (by decide) (fun c31 => ?_) (fun c31 => ?_)
    · have hf := it_t c31 hf
      refine lv_iconst (v := -1) hx hb dX3_entry_69 (by decide) ?_
      cases hf
      exact retI hx hb hr hlocks trivial hS dX3_entry_70
    · have hf := it_f c31 hf
      refine lv_aload_n hx hb dX3_entry_34 rfl (lv_at hl 0 rfl) ?_
      refine va_get (D := (dC, dI)) (ci := 3) (v := .ref m4) (C := RX3) (T := TX3) (N := 9) hx hb hts (fun w h => mc (inX3 w h)) hown hK hP 0 rfl rfl 4 (by decide) (hts _ (mc q_246)) (fun _ h9 => h9) rfl dX3_entry_35 ?_
      refine lv_bipush (v := 32) hx hb dX3_entry_38 (by decide) ?_
      refine lv_iload_n hx hb dX3_entry_40 rfl (lv_at hl 1 rfl) ?_
      obtain ⟨v41, ev41, hf⟩ := slet_e hf
      refine lv_imul hx hb dX3_entry_41 ?_
      refine rw_nm ev41 ?_
      refine lv_iload hx hb dX3_entry_42 (lv_at hl 4 rfl) ?_
      obtain ⟨v44, ev44, hf⟩ := slet_e hf
      refine lv_iadd hx hb dX3_entry_44 ?_
      refine rw_nm ev44 ?_
      obtain ⟨hiv45, v45, ev45, hf⟩ := ard_e hf
      refine rw_ald hx hb hK hP 4 0 rfl rfl hiv45 ev45 dX3_entry_45 ?_
      refine lv_if_ge (tgt := 52) hx hb dX3_entry_46 (by decide) (fun c46 => ?_) (fun c46 => ?_)
      · have hf := it_t c46 hf
        refine lv_iload_n hx hb dX3_entry_52 rfl (lv_at hl 3 rfl) ?_
        refine lv_iload_n hx hb dX3_entry_53 rfl (lv_at hl 2 rfl) ?_
        refine lv_icmp_ne (tgt := 60) hx hb dX3_entry_54 (by decide) (fun c54 => ?_) (fun c54 => ?_)
        · have hf := it_f c54 hf
          obtain ⟨v60, ev60, hf⟩ := slet_e hf
          refine lv_iinc (v := v60) (lv' := [(3, .int v60), (0, .ref m0), (1, .int x1), (2, .int x2), (4, .int x4)]) hx hb dX3_entry_60 hl (k := 3) rfl (by rw [ev60]; rfl) (by decide) rfl (fun ls hl => ?_)
          obtain ⟨v63, ev63, hf⟩ := slet_e hf
          refine lv_iinc (v := v63) (lv' := [(4, .int v63), (3, .int v60), (0, .ref m0), (1, .int x1), (2, .int x2)]) hx hb dX3_entry_63 hl (k := 4) rfl (by rw [ev63]; rfl) (by decide) rfl (fun ls hl => ?_)
          refine lv_goto (tgt := 27) hx hb dX3_entry_66 (by decide) ?_
          exact ih x1 x2 v60 v63 _ _ hP hS _ (lv_sub hl [2, 3, 4, 1, 0] rfl) hf
        · have hf := it_t c54 hf
          refine lv_iload hx hb dX3_entry_57 (lv_at hl 4 rfl) ?_
          cases hf
          exact retI hx hb hr hlocks trivial hS dX3_entry_59
      · have hf := it_f c46 hf
        refine lv_goto (tgt := 63) hx hb dX3_entry_49 (by decide) ?_
        obtain ⟨v63, ev63, hf⟩ := slet_e hf
        refine lv_iinc (v := v63) (lv' := [(4, .int v63), (0, .ref m0), (1, .int x1), (2, .int x2), (3, .int x3)]) hx hb dX3_entry_63 hl (k := 4) rfl (by rw [ev63]; rfl) (by decide) rfl (fun ls hl => ?_)
        refine lv_goto (tgt := 27) hx hb dX3_entry_66 (by decide) ?_
        exact ih x1 x2 x3 v63 _ _ hP hS _ (lv_sub hl [1, 2, 3, 4, 0] rfl) hf
set_option maxHeartbeats 4000000 in
set_option maxRecDepth 100000 in
theorem cX3_entry_met (l : Launch) (dC : Nat → ClassId) (dI : Nat → Nat → Nat) (cI : ClassId) (m0 m1 m2 m3 m4 m5 : Nat) (mlim : Int32) (mkpt : Int32) (msyn : Int32) (mcn : Int32) (mkd : Nat → Int32) (msz : Nat → Int32) (mct : Nat → Int32) (men : Nat → Int32) (mch : Nat → Int32) (x1 : Int32) (x2 : Int32) (r : Int32) (hf : fX3_entry x1 x2 mkd men = some r) : Met l yX3_entry wsX3_entry ({ frames := 1, cells := 0, slots := 0, locals := 21 } : Room) (pcR [.ref m0, .int x1, .int x2] (dC, dI) vwCl [(cI, .int)] (wX3 cI m0 m1 m2 m3 m4 m5 mlim mkpt msyn mcn mkd msz mct men mch)) (qI r pT aN) 0 0 aN := by
  refine Met.ofW (cc := cX3_entry) (maxL := 5) (ret := (some .int)) (by decide) rfl ?_
  intro p e s m args below meth c s₁ B hml hv
  obtain ⟨rfl, hP, hK⟩ := hv
  have hx := B.exec
  have hb := B.bytes
  have hr := B.returns
  have hts := atoms_spec (ws := wsX3_entry) B.pre
  have hown : s.vm.findClass RX3 = some m.cls := findClass_of_methodNamed B.named
  have hlocks := B.notSynchronized
  have hS : va_S aN s.heap s.heap [] := va_S.rf
  have hl := lv_entry ([.ref m0, .int x1, .int x2]) (n := 5) (Nat.le_of_ble_eq_true rfl)
  rw [lg_entry_eq]
  generalize (lg_sl ([.ref m0, .int x1, .int x2]) ++ List.replicate (5 - (lg_sl ([.ref m0, .int x1, .int x2])).length) Slot.unset).toArray = ls at hl ⊢
  have hl : lv_has ls 5 [(0, .ref m0), (1, .int x1), (2, .int x2)] := hl
  unfold fX3_entry at hf
  refine lv_iload_n hx hb dX3_entry_0 rfl (lv_at hl 1 rfl) ?_
  refine lv_bipush (v := 16) hx hb dX3_entry_1 (by decide) ?_
  obtain ⟨r3, hc3, hf⟩ := bn1_e hf
  refine callRi (va_runS (As := [.int x1, .int 16]) (rest := []) ⟨hx, hb, hml, hown, hts⟩ (cX3_out_met l dC dI cI x1 16 r3 hc3) (cwS 2 hts gX3_entry_78 rfl rfl rfl (by decide +kernel) ⟨Nat.le_of_ble_eq_true rfl, Nat.le_of_ble_eq_true rfl⟩) (preRS hK (hP.sub (ws' := []) [] rfl)) rfl rfl hl.1 rfl (lv_room (Nat.le_of_ble_eq_true rfl)) dX3_entry_3 ⟨Nat.le_of_ble_eq_true rfl, Nat.le_of_ble_eq_true rfl⟩) hS hP (fun H locs hP hS => ?_)
  refine lv_if_eq (tgt := 11) hx hb dX3_entry_6 (by decide) (fun c6 => ?_) (fun c6 => ?_)
  · have hf := it_t c6 hf
    refine lv_aload_n hx hb dX3_entry_11 rfl (lv_at hl 0 rfl) ?_
    refine lv_iload_n hx hb dX3_entry_12 rfl (lv_at hl 1 rfl) ?_
    obtain ⟨r13, hc13, hf⟩ := bn1_e hf
    refine callRi (va_runV (As := [.int x1]) (rest := []) ⟨hx, hb, hml, hown, hts⟩ (cX3_isDir_met l dC dI cI m0 m1 m2 m3 m4 m5 mlim mkpt msyn mcn mkd msz mct men mch x1 r13 hc13) (cwV 1 hts gX3_entry_36 rfl rfl rfl (by decide +kernel) ⟨Nat.le_of_ble_eq_true rfl, Nat.le_of_ble_eq_true rfl⟩) (preRV (ci := 3) (q0 := 0) hK hP rfl rfl) rfl rfl hl.1 rfl (lv_room (Nat.le_of_ble_eq_true rfl)) dX3_entry_13 ⟨Nat.le_of_ble_eq_true rfl, Nat.le_of_ble_eq_true rfl⟩) hS hP (fun H locs hP hS => ?_)
    refine lv_if_ne (tgt := 22) hx hb dX3_entry_16 (by decide) (fun c16 => ?_) (fun c16 => ?_)
    · have hf := it_f c16 hf
      refine lv_iconst (v := 0) hx hb dX3_entry_22 (by decide) ?_
      refine lv_istore_n (lv' := [(3, .int 0), (0, .ref m0), (1, .int x1), (2, .int x2)]) hx hb dX3_entry_23 rfl hl (by decide) rfl (fun ls hl => ?_)
      refine lv_iconst (v := 0) hx hb dX3_entry_24 (by decide) ?_
      refine lv_istore (lv' := [(4, .int 0), (3, .int 0), (0, .ref m0), (1, .int x1), (2, .int x2)]) hx hb dX3_entry_25 hl (by decide) rfl (fun ls hl => ?_)
      exact wbX3_entry_27 hx hb hml hown hts hr hlocks hK m0 m1 m2 m3 m4 m5 mlim mkpt msyn mcn mkd msz mct men mch r 2000 x1 x2 0 0 _ _ hP hS _ (lv_sub hl [2, 3, 4, 1, 0] rfl) hf
    · have hf := it_t c16 hf
      refine lv_bipush (v := -2) hx hb dX3_entry_19 (by decide) ?_
      cases hf
      exact retI hx hb hr hlocks trivial hS dX3_entry_21
  · have hf := it_f c6 hf
    refine lv_iconst (v := -1) hx hb dX3_entry_9 (by decide) ?_
    cases hf
    exact retI hx hb hr hlocks trivial hS dX3_entry_10
theorem gX3_read_78 : GoodIn wsX3_read (wsS RX3 78 yX3_out wsX3_out) := gIn (memS q_255 q_256 q_5 q_257)
set_option maxHeartbeats 4000000 in
set_option maxRecDepth 100000 in
theorem cX3_read_met (l : Launch) (dC : Nat → ClassId) (dI : Nat → Nat → Nat) (cI : ClassId) (m0 m1 m2 m3 m4 m5 : Nat) (mlim : Int32) (mkpt : Int32) (msyn : Int32) (mcn : Int32) (mkd : Nat → Int32) (msz : Nat → Int32) (mct : Nat → Int32) (men : Nat → Int32) (mch : Nat → Int32) (x1 : Int32) (x2 : Int32) (r : Int64) (hf : fX3_read x1 x2 mkd msz mct = some r) : Met l yX3_read wsX3_read ({ frames := 1, cells := 0, slots := 0, locals := 21 } : Room) (pcR [.ref m0, .int x1, .int x2] (dC, dI) vwCl [(cI, .int)] (wX3 cI m0 m1 m2 m3 m4 m5 mlim mkpt msyn mcn mkd msz mct men mch)) (qL r pT aN) 0 0 aN := by
  refine Met.ofW (cc := cX3_read) (maxL := 3) (ret := (some .long)) (by decide) rfl ?_
  intro p e s m args below meth c s₁ B hml hv
  obtain ⟨rfl, hP, hK⟩ := hv
  have hx := B.exec
  have hb := B.bytes
  have hr := B.returns
  have hts := atoms_spec (ws := wsX3_read) B.pre
  have hown : s.vm.findClass RX3 = some m.cls := findClass_of_methodNamed B.named
  have hlocks := B.notSynchronized
  have hS : va_S aN s.heap s.heap [] := va_S.rf
  have hl := lv_entry ([.ref m0, .int x1, .int x2]) (n := 3) (Nat.le_of_ble_eq_true rfl)
  rw [lg_entry_eq]
  generalize (lg_sl ([.ref m0, .int x1, .int x2]) ++ List.replicate (3 - (lg_sl ([.ref m0, .int x1, .int x2])).length) Slot.unset).toArray = ls at hl ⊢
  have hl : lv_has ls 3 [(0, .ref m0), (1, .int x1), (2, .int x2)] := hl
  unfold fX3_read at hf
  refine lv_iload_n hx hb dX3_read_0 rfl (lv_at hl 1 rfl) ?_
  refine lv_bipush (v := 16) hx hb dX3_read_1 (by decide) ?_
  obtain ⟨r3, hc3, hf⟩ := bn1_e hf
  refine callRi (va_runS (As := [.int x1, .int 16]) (rest := []) ⟨hx, hb, hml, hown, hts⟩ (cX3_out_met l dC dI cI x1 16 r3 hc3) (cwS 2 hts gX3_read_78 rfl rfl rfl (by decide +kernel) ⟨Nat.le_of_ble_eq_true rfl, Nat.le_of_ble_eq_true rfl⟩) (preRS hK (hP.sub (ws' := []) [] rfl)) rfl rfl hl.1 rfl (lv_room (Nat.le_of_ble_eq_true rfl)) dX3_read_3 ⟨Nat.le_of_ble_eq_true rfl, Nat.le_of_ble_eq_true rfl⟩) hS hP (fun H locs hP hS => ?_)
  refine lv_if_ne (tgt := 32) hx hb dX3_read_6 (by decide) (fun c6 => ?_) (fun c6 => ?_)
  · have hf := it_f c6 hf
    refine lv_ldc2 hx hb hown (hts _ (mc q_335)) dX3_read_32 ?_
    cases hf
    exact retL hx hb hr hlocks trivial hS dX3_read_35
  · have hf := it_t c6 hf
    refine lv_aload_n hx hb dX3_read_9 rfl (lv_at hl 0 rfl) ?_
    refine va_get (D := (dC, dI)) (ci := 3) (v := .ref m1) (C := RX3) (T := TX3) (N := 9) hx hb hts (fun w h => mc (inX3 w h)) hown hK hP 0 rfl rfl 1 (by decide) (hts _ (mc q_243)) (fun _ h9 => h9) rfl dX3_read_10 ?_
    refine lv_iload_n hx hb dX3_read_13 rfl (lv_at hl 1 rfl) ?_
    obtain ⟨hiv14, v14, ev14, hf⟩ := ard_e hf
    refine rw_ald hx hb hK hP 1 0 rfl rfl hiv14 ev14 dX3_read_14 ?_
    refine lv_iconst (v := 1) hx hb dX3_read_15 (by decide) ?_
    refine lv_icmp_ne (tgt := 32) hx hb dX3_read_16 (by decide) (fun c16 => ?_) (fun c16 => ?_)
    · have hf := it_f c16 hf
      refine lv_ldc2 hx hb hown (hts _ (mc q_335)) dX3_read_32 ?_
      cases hf
      exact retL hx hb hr hlocks trivial hS dX3_read_35
    · have hf := it_t c16 hf
      refine lv_iload_n hx hb dX3_read_19 rfl (lv_at hl 2 rfl) ?_
      refine lv_aload_n hx hb dX3_read_20 rfl (lv_at hl 0 rfl) ?_
      refine va_get (D := (dC, dI)) (ci := 3) (v := .ref m2) (C := RX3) (T := TX3) (N := 9) hx hb hts (fun w h => mc (inX3 w h)) hown hK hP 0 rfl rfl 2 (by decide) (hts _ (mc q_244)) (fun _ h9 => h9) rfl dX3_read_21 ?_
      refine lv_iload_n hx hb dX3_read_24 rfl (lv_at hl 1 rfl) ?_
      obtain ⟨hiv25, v25, ev25, hf⟩ := ard_e hf
      refine rw_ald hx hb hK hP 2 0 rfl rfl hiv25 ev25 dX3_read_25 ?_
      obtain ⟨r26, hc26, hf⟩ := bn1_e hf
      refine callRi (va_runS (As := [.int x2, .int v25]) (rest := []) ⟨hx, hb, hml, hown, hts⟩ (cX3_out_met l dC dI cI x2 v25 r26 hc26) (cwS 2 hts gX3_read_78 rfl rfl rfl (by decide +kernel) ⟨Nat.le_of_ble_eq_true rfl, Nat.le_of_ble_eq_true rfl⟩) (preRS hK (hP.sub (ws' := []) [] rfl)) rfl rfl hl.1 rfl (lv_room (Nat.le_of_ble_eq_true rfl)) dX3_read_26 ⟨Nat.le_of_ble_eq_true rfl, Nat.le_of_ble_eq_true rfl⟩) hS hP (fun H locs hP hS => ?_)
      refine lv_if_eq (tgt := 36) hx hb dX3_read_29 (by decide) (fun c29 => ?_) (fun c29 => ?_)
      · have hf := it_t c29 hf
        refine lv_aload_n hx hb dX3_read_36 rfl (lv_at hl 0 rfl) ?_
        refine va_get (D := (dC, dI)) (ci := 3) (v := .ref m3) (C := RX3) (T := TX3) (N := 9) hx hb hts (fun w h => mc (inX3 w h)) hown hK hP 0 rfl rfl 3 (by decide) (hts _ (mc q_245)) (fun _ h9 => h9) rfl dX3_read_37 ?_
        refine lv_bipush (v := 8) hx hb dX3_read_40 (by decide) ?_
        refine lv_iload_n hx hb dX3_read_42 rfl (lv_at hl 1 rfl) ?_
        obtain ⟨v43, ev43, hf⟩ := slet_e hf
        refine lv_imul hx hb dX3_read_43 ?_
        refine rw_nm ev43 ?_
        refine lv_iload_n hx hb dX3_read_44 rfl (lv_at hl 2 rfl) ?_
        obtain ⟨v45, ev45, hf⟩ := slet_e hf
        refine lv_iadd hx hb dX3_read_45 ?_
        refine rw_nm ev45 ?_
        obtain ⟨hiv46, v46, ev46, hf⟩ := ard_e hf
        refine rw_ald hx hb hK hP 3 0 rfl rfl hiv46 ev46 dX3_read_46 ?_
        obtain ⟨v47, ev47, hf⟩ := slet_e hf
        refine lv_i2l (v := v47) hx hb dX3_read_47 ev47.symm ?_
        cases hf
        exact retL hx hb hr hlocks trivial hS dX3_read_48
      · have hf := it_f c29 hf
        refine lv_ldc2 hx hb hown (hts _ (mc q_335)) dX3_read_32 ?_
        cases hf
        exact retL hx hb hr hlocks trivial hS dX3_read_35
theorem gX3_tell_78 : GoodIn wsX3_tell (wsS RX3 78 yX3_out wsX3_out) := gIn (memS q_255 q_256 q_5 q_257)
theorem gX3_tell_52 : GoodIn wsX3_tell (wsV RX3 52 RX3 yX3_links wsX3_links) := gIn (memV q_279 q_280 q_357 q_5 q_281)
theorem gX3_tell_36 : GoodIn wsX3_tell (wsV RX3 36 RX3 yX3_isDir wsX3_isDir) := gIn (memV q_264 q_265 q_352 q_5 q_266)
theorem gX3_tell_40 : GoodIn wsX3_tell (wsV RX3 40 RX3 yX3_entryCount wsX3_entryCount) := gIn (memV q_267 q_268 q_353 q_5 q_269)
set_option maxHeartbeats 4000000 in
set_option maxRecDepth 100000 in
theorem cX3_tell_met (l : Launch) (dC : Nat → ClassId) (dI : Nat → Nat → Nat) (cI : ClassId) (m0 m1 m2 m3 m4 m5 : Nat) (mlim : Int32) (mkpt : Int32) (msyn : Int32) (mcn : Int32) (mkd : Nat → Int32) (msz : Nat → Int32) (mct : Nat → Int32) (men : Nat → Int32) (mch : Nat → Int32) (x1 : Int32) (x2 : Int32) (r : Int32) (hf : fX3_tell x1 x2 mkd msz men = some r) : Met l yX3_tell wsX3_tell ({ frames := 1, cells := 0, slots := 0, locals := 23 } : Room) (pcR [.ref m0, .int x1, .int x2] (dC, dI) vwCl [(cI, .int)] (wX3 cI m0 m1 m2 m3 m4 m5 mlim mkpt msyn mcn mkd msz mct men mch)) (qI r pT aN) 0 0 aN := by
  refine Met.ofW (cc := cX3_tell) (maxL := 3) (ret := (some .int)) (by decide) rfl ?_
  intro p e s m args below meth c s₁ B hml hv
  obtain ⟨rfl, hP, hK⟩ := hv
  have hx := B.exec
  have hb := B.bytes
  have hr := B.returns
  have hts := atoms_spec (ws := wsX3_tell) B.pre
  have hown : s.vm.findClass RX3 = some m.cls := findClass_of_methodNamed B.named
  have hlocks := B.notSynchronized
  have hS : va_S aN s.heap s.heap [] := va_S.rf
  have hl := lv_entry ([.ref m0, .int x1, .int x2]) (n := 3) (Nat.le_of_ble_eq_true rfl)
  rw [lg_entry_eq]
  generalize (lg_sl ([.ref m0, .int x1, .int x2]) ++ List.replicate (3 - (lg_sl ([.ref m0, .int x1, .int x2])).length) Slot.unset).toArray = ls at hl ⊢
  have hl : lv_has ls 3 [(0, .ref m0), (1, .int x1), (2, .int x2)] := hl
  unfold fX3_tell at hf
  refine lv_iload_n hx hb dX3_tell_0 rfl (lv_at hl 1 rfl) ?_
  refine lv_bipush (v := 16) hx hb dX3_tell_1 (by decide) ?_
  obtain ⟨r3, hc3, hf⟩ := bn1_e hf
  refine callRi (va_runS (As := [.int x1, .int 16]) (rest := []) ⟨hx, hb, hml, hown, hts⟩ (cX3_out_met l dC dI cI x1 16 r3 hc3) (cwS 2 hts gX3_tell_78 rfl rfl rfl (by decide +kernel) ⟨Nat.le_of_ble_eq_true rfl, Nat.le_of_ble_eq_true rfl⟩) (preRS hK (hP.sub (ws' := []) [] rfl)) rfl rfl hl.1 rfl (lv_room (Nat.le_of_ble_eq_true rfl)) dX3_tell_3 ⟨Nat.le_of_ble_eq_true rfl, Nat.le_of_ble_eq_true rfl⟩) hS hP (fun H locs hP hS => ?_)
  refine lv_if_ne (tgt := 17) hx hb dX3_tell_6 (by decide) (fun c6 => ?_) (fun c6 => ?_)
  · have hf := it_f c6 hf
    refine lv_iconst (v := -1) hx hb dX3_tell_17 (by decide) ?_
    cases hf
    exact retI hx hb hr hlocks trivial hS dX3_tell_18
  · have hf := it_t c6 hf
    refine lv_iload_n hx hb dX3_tell_9 rfl (lv_at hl 2 rfl) ?_
    refine lv_iconst (v := 3) hx hb dX3_tell_10 (by decide) ?_
    obtain ⟨r11, hc11, hf⟩ := bn1_e hf
    refine callRi (va_runS (As := [.int x2, .int 3]) (rest := []) ⟨hx, hb, hml, hown, hts⟩ (cX3_out_met l dC dI cI x2 3 r11 hc11) (cwS 2 hts gX3_tell_78 rfl rfl rfl (by decide +kernel) ⟨Nat.le_of_ble_eq_true rfl, Nat.le_of_ble_eq_true rfl⟩) (preRS hK (hP.sub (ws' := []) [] rfl)) rfl rfl hl.1 rfl (lv_room (Nat.le_of_ble_eq_true rfl)) dX3_tell_11 ⟨Nat.le_of_ble_eq_true rfl, Nat.le_of_ble_eq_true rfl⟩) hS hP (fun H locs hP hS => ?_)
    refine lv_if_eq (tgt := 19) hx hb dX3_tell_14 (by decide) (fun c14 => ?_) (fun c14 => ?_)
    · have hf := it_t c14 hf
      refine lv_iload_n hx hb dX3_tell_19 rfl (lv_at hl 2 rfl) ?_
      refine lv_if_ne (tgt := 30) hx hb dX3_tell_20 (by decide) (fun c20 => ?_) (fun c20 => ?_)
      · have hf := it_f c20 hf
        refine lv_aload_n hx hb dX3_tell_30 rfl (lv_at hl 0 rfl) ?_
        refine va_get (D := (dC, dI)) (ci := 3) (v := .ref m1) (C := RX3) (T := TX3) (N := 9) hx hb hts (fun w h => mc (inX3 w h)) hown hK hP 0 rfl rfl 1 (by decide) (hts _ (mc q_243)) (fun _ h9 => h9) rfl dX3_tell_31 ?_
        refine lv_iload_n hx hb dX3_tell_34 rfl (lv_at hl 1 rfl) ?_
        obtain ⟨hiv35, v35, ev35, hf⟩ := ard_e hf
        refine rw_ald hx hb hK hP 1 0 rfl rfl hiv35 ev35 dX3_tell_35 ?_
        refine lv_if_ne (tgt := 42) hx hb dX3_tell_36 (by decide) (fun c36 => ?_) (fun c36 => ?_)
        · have hf := it_f c36 hf
          refine lv_iload_n hx hb dX3_tell_42 rfl (lv_at hl 2 rfl) ?_
          refine lv_iconst (v := 1) hx hb dX3_tell_43 (by decide) ?_
          refine lv_icmp_ne (tgt := 70) hx hb dX3_tell_44 (by decide) (fun c44 => ?_) (fun c44 => ?_)
          · have hf := it_f c44 hf
            refine lv_aload_n hx hb dX3_tell_70 rfl (lv_at hl 0 rfl) ?_
            refine lv_iload_n hx hb dX3_tell_71 rfl (lv_at hl 1 rfl) ?_
            obtain ⟨r72, hc72, hf⟩ := bn1_e hf
            refine callRi (va_runV (As := [.int x1]) (rest := []) ⟨hx, hb, hml, hown, hts⟩ (cX3_links_met l dC dI cI m0 m1 m2 m3 m4 m5 mlim mkpt msyn mcn mkd msz mct men mch x1 r72 hc72) (cwV 1 hts gX3_tell_52 rfl rfl rfl (by decide +kernel) ⟨Nat.le_of_ble_eq_true rfl, Nat.le_of_ble_eq_true rfl⟩) (preRV (ci := 3) (q0 := 0) hK hP rfl rfl) rfl rfl hl.1 rfl (lv_room (Nat.le_of_ble_eq_true rfl)) dX3_tell_72 ⟨Nat.le_of_ble_eq_true rfl, Nat.le_of_ble_eq_true rfl⟩) hS hP (fun H locs hP hS => ?_)
            cases hf
            exact retI hx hb hr hlocks trivial hS dX3_tell_75
          · have hf := it_t c44 hf
            refine lv_aload_n hx hb dX3_tell_47 rfl (lv_at hl 0 rfl) ?_
            refine lv_iload_n hx hb dX3_tell_48 rfl (lv_at hl 1 rfl) ?_
            obtain ⟨r49, hc49, hf⟩ := bn1_e hf
            refine callRi (va_runV (As := [.int x1]) (rest := []) ⟨hx, hb, hml, hown, hts⟩ (cX3_isDir_met l dC dI cI m0 m1 m2 m3 m4 m5 mlim mkpt msyn mcn mkd msz mct men mch x1 r49 hc49) (cwV 1 hts gX3_tell_36 rfl rfl rfl (by decide +kernel) ⟨Nat.le_of_ble_eq_true rfl, Nat.le_of_ble_eq_true rfl⟩) (preRV (ci := 3) (q0 := 0) hK hP rfl rfl) rfl rfl hl.1 rfl (lv_room (Nat.le_of_ble_eq_true rfl)) dX3_tell_49 ⟨Nat.le_of_ble_eq_true rfl, Nat.le_of_ble_eq_true rfl⟩) hS hP (fun H locs hP hS => ?_)
            refine lv_if_eq (tgt := 63) hx hb dX3_tell_52 (by decide) (fun c52 => ?_) (fun c52 => ?_)
            · have hf := it_t c52 hf
              refine lv_aload_n hx hb dX3_tell_63 rfl (lv_at hl 0 rfl) ?_
              refine va_get (D := (dC, dI)) (ci := 3) (v := .ref m2) (C := RX3) (T := TX3) (N := 9) hx hb hts (fun w h => mc (inX3 w h)) hown hK hP 0 rfl rfl 2 (by decide) (hts _ (mc q_244)) (fun _ h9 => h9) rfl dX3_tell_64 ?_
              refine lv_iload_n hx hb dX3_tell_67 rfl (lv_at hl 1 rfl) ?_
              obtain ⟨hiv68, v68, ev68, hf⟩ := ard_e hf
              refine rw_ald hx hb hK hP 2 0 rfl rfl hiv68 ev68 dX3_tell_68 ?_
              cases hf
              exact retI hx hb hr hlocks trivial hS dX3_tell_69
            · have hf := it_f c52 hf
              refine lv_aload_n hx hb dX3_tell_55 rfl (lv_at hl 0 rfl) ?_
              refine lv_iload_n hx hb dX3_tell_56 rfl (lv_at hl 1 rfl) ?_
              obtain ⟨r57, hc57, hf⟩ := bn1_e hf
              refine callRi (va_runV (As := [.int x1]) (rest := []) ⟨hx, hb, hml, hown, hts⟩ (cX3_entryCount_met l dC dI cI m0 m1 m2 m3 m4 m5 mlim mkpt msyn mcn mkd msz mct men mch x1 r57 hc57) (cwV 1 hts gX3_tell_40 rfl rfl rfl (by decide +kernel) ⟨Nat.le_of_ble_eq_true rfl, Nat.le_of_ble_eq_true rfl⟩) (preRV (ci := 3) (q0 := 0) hK hP rfl rfl) rfl rfl hl.1 rfl (lv_room (Nat.le_of_ble_eq_true rfl)) dX3_tell_57 ⟨Nat.le_of_ble_eq_true rfl, Nat.le_of_ble_eq_true rfl⟩) hS hP (fun H locs hP hS => ?_)
              refine lv_goto (tgt := 69) hx hb dX3_tell_60 (by decide) ?_
              cases hf
              exact retI hx hb hr hlocks trivial hS dX3_tell_69
        · have hf := it_t c36 hf
          refine lv_bipush (v := -2) hx hb dX3_tell_39 (by decide) ?_
          cases hf
          exact retI hx hb hr hlocks trivial hS dX3_tell_41
      · have hf := it_t c20 hf
        refine lv_aload_n hx hb dX3_tell_23 rfl (lv_at hl 0 rfl) ?_
        refine va_get (D := (dC, dI)) (ci := 3) (v := .ref m1) (C := RX3) (T := TX3) (N := 9) hx hb hts (fun w h => mc (inX3 w h)) hown hK hP 0 rfl rfl 1 (by decide) (hts _ (mc q_243)) (fun _ h9 => h9) rfl dX3_tell_24 ?_
        refine lv_iload_n hx hb dX3_tell_27 rfl (lv_at hl 1 rfl) ?_
        obtain ⟨hiv28, v28, ev28, hf⟩ := ard_e hf
        refine rw_ald hx hb hK hP 1 0 rfl rfl hiv28 ev28 dX3_tell_28 ?_
        cases hf
        exact retI hx hb hr hlocks trivial hS dX3_tell_29
    · have hf := it_f c14 hf
      refine lv_iconst (v := -1) hx hb dX3_tell_17 (by decide) ?_
      cases hf
      exact retI hx hb hr hlocks trivial hS dX3_tell_18
theorem gX3_count_61 : GoodIn wsX3_count (wsV RX3 61 RX3 yX3_live wsX3_live) := gIn (memV q_289 q_290 q_359 q_5 q_291)
theorem gX3_count_44 : GoodIn wsX3_count (wsV RX3 44 RX3 yX3_nodes wsX3_nodes) := gIn (memV q_270 q_271 q_354 q_5 q_272)
set_option maxHeartbeats 4000000 in
set_option maxRecDepth 100000 in
theorem cX3_count_met (l : Launch) (dC : Nat → ClassId) (dI : Nat → Nat → Nat) (cI : ClassId) (m0 m1 m2 m3 m4 m5 : Nat) (mlim : Int32) (mkpt : Int32) (msyn : Int32) (mcn : Int32) (mkd : Nat → Int32) (msz : Nat → Int32) (mct : Nat → Int32) (men : Nat → Int32) (mch : Nat → Int32) (x1 : Int32) (r : Int32) (hf : fX3_count x1 mlim mkpt msyn mcn mkd msz = some r) : Met l yX3_count wsX3_count ({ frames := 1, cells := 0, slots := 0, locals := 22 } : Room) (pcR [.ref m0, .int x1] (dC, dI) vwCl [(cI, .int)] (wX3 cI m0 m1 m2 m3 m4 m5 mlim mkpt msyn mcn mkd msz mct men mch)) (qI r pT aN) 0 0 aN := by
  refine Met.ofW (cc := cX3_count) (maxL := 2) (ret := (some .int)) (by decide) rfl ?_
  intro p e s m args below meth c s₁ B hml hv
  obtain ⟨rfl, hP, hK⟩ := hv
  have hx := B.exec
  have hb := B.bytes
  have hr := B.returns
  have hts := atoms_spec (ws := wsX3_count) B.pre
  have hown : s.vm.findClass RX3 = some m.cls := findClass_of_methodNamed B.named
  have hlocks := B.notSynchronized
  have hS : va_S aN s.heap s.heap [] := va_S.rf
  have hl := lv_entry ([.ref m0, .int x1]) (n := 2) (Nat.le_of_ble_eq_true rfl)
  rw [lg_entry_eq]
  generalize (lg_sl ([.ref m0, .int x1]) ++ List.replicate (2 - (lg_sl ([.ref m0, .int x1])).length) Slot.unset).toArray = ls at hl ⊢
  have hl : lv_has ls 2 [(0, .ref m0), (1, .int x1)] := hl
  unfold fX3_count at hf
  refine lv_iload_n hx hb dX3_count_0 rfl (lv_at hl 1 rfl) ?_
  by_cases c1_0 : x1 = 0
  · have hf := it_t c1_0 hf
    refine lv_tableIn (tgt := 40) hx hb dX3_count_1 (by rw [c1_0]; decide) (by rw [c1_0]; decide) (off := 39) (by rw [c1_0]; decide) (by decide) ?_
    refine lv_aload_n hx hb dX3_count_40 rfl (lv_at hl 0 rfl) ?_
    obtain ⟨r41, hc41, hf⟩ := bn1_e hf
    refine callRi (va_runV (As := []) (rest := []) ⟨hx, hb, hml, hown, hts⟩ (cX3_live_met l dC dI cI m0 m1 m2 m3 m4 m5 mlim mkpt msyn mcn mkd msz mct men mch r41 hc41) (cwV 0 hts gX3_count_61 rfl rfl rfl (by decide +kernel) ⟨Nat.le_of_ble_eq_true rfl, Nat.le_of_ble_eq_true rfl⟩) (preRV (ci := 3) (q0 := 0) hK hP rfl rfl) rfl rfl hl.1 rfl (lv_room (Nat.le_of_ble_eq_true rfl)) dX3_count_41 ⟨Nat.le_of_ble_eq_true rfl, Nat.le_of_ble_eq_true rfl⟩) hS hP (fun H locs hP hS => ?_)
    cases hf
    exact retI hx hb hr hlocks trivial hS dX3_count_44
  have hf := it_f c1_0 hf
  by_cases c1_1 : x1 = 1
  · have hf := it_t c1_1 hf
    refine lv_tableIn (tgt := 45) hx hb dX3_count_1 (by rw [c1_1]; decide) (by rw [c1_1]; decide) (off := 44) (by rw [c1_1]; decide) (by decide) ?_
    refine lv_aload_n hx hb dX3_count_45 rfl (lv_at hl 0 rfl) ?_
    refine va_get (D := (dC, dI)) (ci := 3) (v := .int mkpt) (C := RX3) (T := TX3) (N := 9) hx hb hts (fun w h => mc (inX3 w h)) hown hK hP 0 rfl rfl 5 (by decide) (hts _ (mc q_247)) (fun _ h9 => h9) rfl dX3_count_46 ?_
    cases hf
    exact retI hx hb hr hlocks trivial hS dX3_count_49
  have hf := it_f c1_1 hf
  by_cases c1_2 : x1 = 2
  · have hf := it_t c1_2 hf
    refine lv_tableIn (tgt := 50) hx hb dX3_count_1 (by rw [c1_2]; decide) (by rw [c1_2]; decide) (off := 49) (by rw [c1_2]; decide) (by decide) ?_
    refine lv_aload_n hx hb dX3_count_50 rfl (lv_at hl 0 rfl) ?_
    refine va_get (D := (dC, dI)) (ci := 3) (v := .int mcn) (C := RX3) (T := TX3) (N := 9) hx hb hts (fun w h => mc (inX3 w h)) hown hK hP 0 rfl rfl 7 (by decide) (hts _ (mc q_249)) (fun _ h9 => h9) rfl dX3_count_51 ?_
    cases hf
    exact retI hx hb hr hlocks trivial hS dX3_count_54
  have hf := it_f c1_2 hf
  by_cases c1_3 : x1 = 3
  · have hf := it_t c1_3 hf
    refine lv_tableIn (tgt := 55) hx hb dX3_count_1 (by rw [c1_3]; decide) (by rw [c1_3]; decide) (off := 54) (by rw [c1_3]; decide) (by decide) ?_
    refine lv_aload_n hx hb dX3_count_55 rfl (lv_at hl 0 rfl) ?_
    refine va_get (D := (dC, dI)) (ci := 3) (v := .int msyn) (C := RX3) (T := TX3) (N := 9) hx hb hts (fun w h => mc (inX3 w h)) hown hK hP 0 rfl rfl 6 (by decide) (hts _ (mc q_248)) (fun _ h9 => h9) rfl dX3_count_56 ?_
    cases hf
    exact retI hx hb hr hlocks trivial hS dX3_count_59
  have hf := it_f c1_3 hf
  by_cases c1_4 : x1 = 4
  · have hf := it_t c1_4 hf
    refine lv_tableIn (tgt := 60) hx hb dX3_count_1 (by rw [c1_4]; decide) (by rw [c1_4]; decide) (off := 59) (by rw [c1_4]; decide) (by decide) ?_
    refine lv_aload_n hx hb dX3_count_60 rfl (lv_at hl 0 rfl) ?_
    obtain ⟨r61, hc61, hf⟩ := bn1_e hf
    refine callRi (va_runV (As := []) (rest := []) ⟨hx, hb, hml, hown, hts⟩ (cX3_nodes_met l dC dI cI m0 m1 m2 m3 m4 m5 mlim mkpt msyn mcn mkd msz mct men mch r61 hc61) (cwV 0 hts gX3_count_44 rfl rfl rfl (by decide +kernel) ⟨Nat.le_of_ble_eq_true rfl, Nat.le_of_ble_eq_true rfl⟩) (preRV (ci := 3) (q0 := 0) hK hP rfl rfl) rfl rfl hl.1 rfl (lv_room (Nat.le_of_ble_eq_true rfl)) dX3_count_61 ⟨Nat.le_of_ble_eq_true rfl, Nat.le_of_ble_eq_true rfl⟩) hS hP (fun H locs hP hS => ?_)
    cases hf
    exact retI hx hb hr hlocks trivial hS dX3_count_64
  have hf := it_f c1_4 hf
  by_cases c1_5 : x1 = 5
  · have hf := it_t c1_5 hf
    refine lv_tableIn (tgt := 65) hx hb dX3_count_1 (by rw [c1_5]; decide) (by rw [c1_5]; decide) (off := 64) (by rw [c1_5]; decide) (by decide) ?_
    refine lv_aload_n hx hb dX3_count_65 rfl (lv_at hl 0 rfl) ?_
    refine va_get (D := (dC, dI)) (ci := 3) (v := .int mlim) (C := RX3) (T := TX3) (N := 9) hx hb hts (fun w h => mc (inX3 w h)) hown hK hP 0 rfl rfl 0 (by decide) (hts _ (mc q_242)) (fun _ h9 => h9) rfl dX3_count_66 ?_
    cases hf
    exact retI hx hb hr hlocks trivial hS dX3_count_69
  have hf := it_f c1_5 hf
  have t0 := lv_neT (a := 0) c1_0 (by decide)
  have t1 := lv_neT (a := 1) c1_1 (by decide)
  have t2 := lv_neT (a := 2) c1_2 (by decide)
  have t3 := lv_neT (a := 3) c1_3 (by decide)
  have t4 := lv_neT (a := 4) c1_4 (by decide)
  have t5 := lv_neT (a := 5) c1_5 (by decide)
  refine lv_tableOut (tgt := 70) hx hb dX3_count_1 (by omega) (by decide) ?_
  refine lv_iconst (v := -1) hx hb dX3_count_70 (by decide) ?_
  cases hf
  exact retI hx hb hr hlocks trivial hS dX3_count_71
