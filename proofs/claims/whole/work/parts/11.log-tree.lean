set_option maxHeartbeats 4000000 in
set_option maxRecDepth 100000 in
theorem cX1_isDirectory_met (l : Launch) (dC : Nat → ClassId) (dI : Nat → Nat → Nat) (cI : ClassId) (a0 a1 a2 a3 a4 a5 a6 : Nat) (akd : Nat → Int32) (asz : Nat → Int32) (alk : Nat → Int32) (ahm : Nat → Int32) (atg : Nat → Int32) (avl : Nat → Int32) (x1 : Int32) (r : Int32) (hf : fX1_isDirectory x1 akd = some r) : Met l yX1_isDirectory wsX1_isDirectory ({ frames := 0, cells := 0, slots := 0, locals := 0 } : Room) (pcR [.ref a0, .int x1] (dC, dI) vwCl [(cI, .int)] (wX1 cI a0 a1 a2 a3 a4 a5 a6 akd asz alk ahm atg avl)) (qI r pT aN) 0 0 aN := by
  refine Met.ofW (cc := cX1_isDirectory) (maxL := 2) (ret := (some .boolean)) (by decide) rfl ?_
  intro p e s m args below meth c s₁ B hml hv
  obtain ⟨rfl, hP, hK⟩ := hv
  have hx := B.exec
  have hb := B.bytes
  have hr := B.returns
  have hts := atoms_spec (ws := wsX1_isDirectory) B.pre
  have hown : s.vm.findClass RX1 = some m.cls := findClass_of_methodNamed B.named
  have hlocks := B.notSynchronized
  have hS : va_S aN s.heap s.heap [] := va_S.rf
  have hl := lv_entry ([.ref a0, .int x1]) (n := 2) (Nat.le_of_ble_eq_true rfl)
  rw [lg_entry_eq]
  generalize (lg_sl ([.ref a0, .int x1]) ++ List.replicate (2 - (lg_sl ([.ref a0, .int x1])).length) Slot.unset).toArray = ls at hl ⊢
  have hl : lv_has ls 2 [(0, .ref a0), (1, .int x1)] := hl
  unfold fX1_isDirectory at hf
  refine lv_aload_n hx hb dX1_isDirectory_0 rfl (lv_at hl 0 rfl) ?_
  refine va_get (D := (dC, dI)) (ci := 1) (v := .ref a1) (C := RX1) (T := TX1) (N := 6) hx hb hts (fun w h => mc (inX1 w h)) hown hK hP 0 rfl rfl 0 (by decide) (hts _ (mc q_27)) (fun _ h9 => h9) rfl dX1_isDirectory_1 ?_
  refine lv_iload_n hx hb dX1_isDirectory_4 rfl (lv_at hl 1 rfl) ?_
  obtain ⟨hiv5, v5, ev5, hf⟩ := ard_e hf
  refine rw_ald hx hb hK hP 1 0 rfl rfl hiv5 ev5 dX1_isDirectory_5 ?_
  refine lv_iconst (v := 2) hx hb dX1_isDirectory_6 (by decide) ?_
  refine lv_icmp_ne (tgt := 14) hx hb dX1_isDirectory_7 (by decide) (fun c7 => ?_) (fun c7 => ?_)
  · have hf := it_f c7 hf
    refine lv_iconst (v := 0) hx hb dX1_isDirectory_14 (by decide) ?_
    cases hf
    exact retZ hx hb hr hlocks (by decide) trivial hS dX1_isDirectory_15
  · have hf := it_t c7 hf
    refine lv_iconst (v := 1) hx hb dX1_isDirectory_10 (by decide) ?_
    refine lv_goto (tgt := 15) hx hb dX1_isDirectory_11 (by decide) ?_
    cases hf
    exact retZ hx hb hr hlocks (by decide) trivial hS dX1_isDirectory_15
set_option maxHeartbeats 4000000 in
set_option maxRecDepth 100000 in
theorem cX1_target_met (l : Launch) (dC : Nat → ClassId) (dI : Nat → Nat → Nat) (cI : ClassId) (a0 a1 a2 a3 a4 a5 a6 : Nat) (akd : Nat → Int32) (asz : Nat → Int32) (alk : Nat → Int32) (ahm : Nat → Int32) (atg : Nat → Int32) (avl : Nat → Int32) (x1 : Int32) (x2 : Int32) (r : Int32) (hf : fX1_target x1 x2 atg = some r) : Met l yX1_target wsX1_target ({ frames := 0, cells := 0, slots := 0, locals := 0 } : Room) (pcR [.ref a0, .int x1, .int x2] (dC, dI) vwCl [(cI, .int)] (wX1 cI a0 a1 a2 a3 a4 a5 a6 akd asz alk ahm atg avl)) (qI r pT aN) 0 0 aN := by
  refine Met.ofW (cc := cX1_target) (maxL := 3) (ret := (some .int)) (by decide) rfl ?_
  intro p e s m args below meth c s₁ B hml hv
  obtain ⟨rfl, hP, hK⟩ := hv
  have hx := B.exec
  have hb := B.bytes
  have hr := B.returns
  have hts := atoms_spec (ws := wsX1_target) B.pre
  have hown : s.vm.findClass RX1 = some m.cls := findClass_of_methodNamed B.named
  have hlocks := B.notSynchronized
  have hS : va_S aN s.heap s.heap [] := va_S.rf
  have hl := lv_entry ([.ref a0, .int x1, .int x2]) (n := 3) (Nat.le_of_ble_eq_true rfl)
  rw [lg_entry_eq]
  generalize (lg_sl ([.ref a0, .int x1, .int x2]) ++ List.replicate (3 - (lg_sl ([.ref a0, .int x1, .int x2])).length) Slot.unset).toArray = ls at hl ⊢
  have hl : lv_has ls 3 [(0, .ref a0), (1, .int x1), (2, .int x2)] := hl
  unfold fX1_target at hf
  refine lv_aload_n hx hb dX1_target_0 rfl (lv_at hl 0 rfl) ?_
  refine va_get (D := (dC, dI)) (ci := 1) (v := .ref a5) (C := RX1) (T := TX1) (N := 6) hx hb hts (fun w h => mc (inX1 w h)) hown hK hP 0 rfl rfl 4 (by decide) (hts _ (mc q_31)) (fun _ h9 => h9) rfl dX1_target_1 ?_
  refine lv_iload_n hx hb dX1_target_4 rfl (lv_at hl 1 rfl) ?_
  refine lv_bipush (v := 32) hx hb dX1_target_5 (by decide) ?_
  obtain ⟨v7, ev7, hf⟩ := slet_e hf
  refine lv_imul hx hb dX1_target_7 ?_
  refine rw_nm ev7 ?_
  refine lv_iload_n hx hb dX1_target_8 rfl (lv_at hl 2 rfl) ?_
  obtain ⟨v9, ev9, hf⟩ := slet_e hf
  refine lv_iadd hx hb dX1_target_9 ?_
  refine rw_nm ev9 ?_
  obtain ⟨hiv10, v10, ev10, hf⟩ := ard_e hf
  refine rw_ald hx hb hK hP 5 0 rfl rfl hiv10 ev10 dX1_target_10 ?_
  cases hf
  exact retI hx hb hr hlocks trivial hS dX1_target_11
set_option maxHeartbeats 4000000 in
set_option maxRecDepth 100000 in
theorem wbX1_leastFreeNode_2 {p : Program} {l : Launch} {e : Env} {s : State} {m : MethodId} {args : Array Value} {below : List Frame} {meth : Method} {c : Code} {dC : Nat → ClassId} {dI : Nat → Nat → Nat} {cI : ClassId} (hx : p.tables.exec = Jvm.exec) (hb : c.code = cX1_leastFreeNode) (hml : c.maxLocals = 2) (hown : s.vm.findClass RX1 = some m.cls) (hts : ∀ w ∈ wsX1_leastFreeNode, w.before args s = true) (hr : meth.sig.returnType = (some .int)) (hlocks : meth.locks = false) (hK : va_K (dC, dI) vwCl [(cI, .int)] s) (a0 a1 a2 a3 a4 a5 a6 : Nat) (akd : Nat → Int32) (asz : Nat → Int32) (alk : Nat → Int32) (ahm : Nat → Int32) (atg : Nat → Int32) (avl : Nat → Int32) (r : Int32) : ∀ (n : Nat), ∀ (x1 : Int32) (H : Heap) (locs : List Loc), va_P (dC, dI) vwCl (wX1 cI a0 a1 a2 a3 a4 a5 a6 akd asz alk ahm atg avl) H → va_S aN s.heap H locs → ∀ (ls : Array Slot), lv_has ls 2 [(0, .ref a0), (1, .int x1)] → fX1_leastFreeNode_b2 akd n x1 = some r → W p l e ({ frames := 0, cells := 0, slots := 0, locals := 0 } : Room) s m args below meth c H locs 0 0 (MQ below (qI r pT aN) args s 0 0 aN) (F0 m 2 ls []) := by
  intro n
  induction n with
  | zero =>
    intro x1 H locs hP hS ls hl hf
    cases hf
  | succ n ih =>
    intro x1 H locs hP hS ls hl hf
    rw [fX1_leastFreeNode_b2] at hf
    refine lv_iload_n hx hb dX1_leastFreeNode_2 rfl (lv_at hl 1 rfl) ?_
    refine lv_bipush (v := 16) hx hb dX1_leastFreeNode_3 (by decide) ?_
    refine lv_icmp_ge (tgt := 25) hx hb dX1_leastFreeNode_5 (by decide) (fun c5 => ?_) (fun c5 => ?_)
    · have hf := it_t c5 hf
      refine lv_iconst (v := 0) hx hb dX1_leastFreeNode_25 (by decide) ?_
      cases hf
      exact retI hx hb hr hlocks trivial hS dX1_leastFreeNode_26
    · have hf := it_f c5 hf
      refine lv_aload_n hx hb dX1_leastFreeNode_8 rfl (lv_at hl 0 rfl) ?_
      refine va_get (D := (dC, dI)) (ci := 1) (v := .ref a1) (C := RX1) (T := TX1) (N := 6) hx hb hts (fun w h => mc (inX1 w h)) hown hK hP 0 rfl rfl 0 (by decide) (hts _ (mc q_27)) (fun _ h9 => h9) rfl dX1_leastFreeNode_9 ?_
      refine lv_iload_n hx hb dX1_leastFreeNode_12 rfl (lv_at hl 1 rfl) ?_
      obtain ⟨hiv13, v13, ev13, hf⟩ := ard_e hf
      refine rw_ald hx hb hK hP 1 0 rfl rfl hiv13 ev13 dX1_leastFreeNode_13 ?_
      refine lv_if_ne (tgt := 19) hx hb dX1_leastFreeNode_14 (by decide) (fun c14 => ?_) (fun c14 => ?_)
      · have hf := it_f c14 hf
        obtain ⟨v19, ev19, hf⟩ := slet_e hf
        refine lv_iinc (v := v19) (lv' := [(1, .int v19), (0, .ref a0)]) hx hb dX1_leastFreeNode_19 hl (k := 1) rfl (by rw [ev19]; rfl) (by decide) rfl (fun ls hl => ?_)
        refine lv_goto (tgt := 2) hx hb dX1_leastFreeNode_22 (by decide) ?_
        exact ih v19 _ _ hP hS _ (lv_sub hl [1, 0] rfl) hf
      · have hf := it_t c14 hf
        refine lv_iload_n hx hb dX1_leastFreeNode_17 rfl (lv_at hl 1 rfl) ?_
        cases hf
        exact retI hx hb hr hlocks trivial hS dX1_leastFreeNode_18
set_option maxHeartbeats 4000000 in
set_option maxRecDepth 100000 in
theorem cX1_leastFreeNode_met (l : Launch) (dC : Nat → ClassId) (dI : Nat → Nat → Nat) (cI : ClassId) (a0 a1 a2 a3 a4 a5 a6 : Nat) (akd : Nat → Int32) (asz : Nat → Int32) (alk : Nat → Int32) (ahm : Nat → Int32) (atg : Nat → Int32) (avl : Nat → Int32) (r : Int32) (hf : fX1_leastFreeNode akd = some r) : Met l yX1_leastFreeNode wsX1_leastFreeNode ({ frames := 0, cells := 0, slots := 0, locals := 0 } : Room) (pcR [.ref a0] (dC, dI) vwCl [(cI, .int)] (wX1 cI a0 a1 a2 a3 a4 a5 a6 akd asz alk ahm atg avl)) (qI r pT aN) 0 0 aN := by
  refine Met.ofW (cc := cX1_leastFreeNode) (maxL := 2) (ret := (some .int)) (by decide) rfl ?_
  intro p e s m args below meth c s₁ B hml hv
  obtain ⟨rfl, hP, hK⟩ := hv
  have hx := B.exec
  have hb := B.bytes
  have hr := B.returns
  have hts := atoms_spec (ws := wsX1_leastFreeNode) B.pre
  have hown : s.vm.findClass RX1 = some m.cls := findClass_of_methodNamed B.named
  have hlocks := B.notSynchronized
  have hS : va_S aN s.heap s.heap [] := va_S.rf
  have hl := lv_entry ([.ref a0]) (n := 2) (Nat.le_of_ble_eq_true rfl)
  rw [lg_entry_eq]
  generalize (lg_sl ([.ref a0]) ++ List.replicate (2 - (lg_sl ([.ref a0])).length) Slot.unset).toArray = ls at hl ⊢
  have hl : lv_has ls 2 [(0, .ref a0)] := hl
  unfold fX1_leastFreeNode at hf
  refine lv_iconst (v := 0) hx hb dX1_leastFreeNode_0 (by decide) ?_
  refine lv_istore_n (lv' := [(1, .int 0), (0, .ref a0)]) hx hb dX1_leastFreeNode_1 rfl hl (by decide) rfl (fun ls hl => ?_)
  exact wbX1_leastFreeNode_2 hx hb hml hown hts hr hlocks hK a0 a1 a2 a3 a4 a5 a6 akd asz alk ahm atg avl r 2000 0 _ _ hP hS _ (lv_sub hl [1, 0] rfl) hf
set_option maxHeartbeats 4000000 in
set_option maxRecDepth 100000 in
theorem cX1_size_met (l : Launch) (dC : Nat → ClassId) (dI : Nat → Nat → Nat) (cI : ClassId) (a0 a1 a2 a3 a4 a5 a6 : Nat) (akd : Nat → Int32) (asz : Nat → Int32) (alk : Nat → Int32) (ahm : Nat → Int32) (atg : Nat → Int32) (avl : Nat → Int32) (x1 : Int32) (r : Int32) (hf : fX1_size x1 asz = some r) : Met l yX1_size wsX1_size ({ frames := 0, cells := 0, slots := 0, locals := 0 } : Room) (pcR [.ref a0, .int x1] (dC, dI) vwCl [(cI, .int)] (wX1 cI a0 a1 a2 a3 a4 a5 a6 akd asz alk ahm atg avl)) (qI r pT aN) 0 0 aN := by
  refine Met.ofW (cc := cX1_size) (maxL := 2) (ret := (some .int)) (by decide) rfl ?_
  intro p e s m args below meth c s₁ B hml hv
  obtain ⟨rfl, hP, hK⟩ := hv
  have hx := B.exec
  have hb := B.bytes
  have hr := B.returns
  have hts := atoms_spec (ws := wsX1_size) B.pre
  have hown : s.vm.findClass RX1 = some m.cls := findClass_of_methodNamed B.named
  have hlocks := B.notSynchronized
  have hS : va_S aN s.heap s.heap [] := va_S.rf
  have hl := lv_entry ([.ref a0, .int x1]) (n := 2) (Nat.le_of_ble_eq_true rfl)
  rw [lg_entry_eq]
  generalize (lg_sl ([.ref a0, .int x1]) ++ List.replicate (2 - (lg_sl ([.ref a0, .int x1])).length) Slot.unset).toArray = ls at hl ⊢
  have hl : lv_has ls 2 [(0, .ref a0), (1, .int x1)] := hl
  unfold fX1_size at hf
  refine lv_aload_n hx hb dX1_size_0 rfl (lv_at hl 0 rfl) ?_
  refine va_get (D := (dC, dI)) (ci := 1) (v := .ref a2) (C := RX1) (T := TX1) (N := 6) hx hb hts (fun w h => mc (inX1 w h)) hown hK hP 0 rfl rfl 1 (by decide) (hts _ (mc q_28)) (fun _ h9 => h9) rfl dX1_size_1 ?_
  refine lv_iload_n hx hb dX1_size_4 rfl (lv_at hl 1 rfl) ?_
  obtain ⟨hiv5, v5, ev5, hf⟩ := ard_e hf
  refine rw_ald hx hb hK hP 2 0 rfl rfl hiv5 ev5 dX1_size_5 ?_
  cases hf
  exact retI hx hb hr hlocks trivial hS dX1_size_6
set_option maxHeartbeats 4000000 in
set_option maxRecDepth 100000 in
theorem cX1_copyFrom_met (l : Launch) (dC : Nat → ClassId) (dI : Nat → Nat → Nat) (cI : ClassId) (a0 a1 a2 a3 a4 a5 a6 b0 b1 b2 b3 b4 b5 b6 : Nat) (akd : Nat → Int32) (asz : Nat → Int32) (alk : Nat → Int32) (ahm : Nat → Int32) (atg : Nat → Int32) (avl : Nat → Int32) (bkd : Nat → Int32) (bsz : Nat → Int32) (blk : Nat → Int32) (bhm : Nat → Int32) (btg : Nat → Int32) (bvl : Nat → Int32) (akd_o : Nat → Int32) (asz_o : Nat → Int32) (alk_o : Nat → Int32) (ahm_o : Nat → Int32) (atg_o : Nat → Int32) (avl_o : Nat → Int32) (hf : fX1_copyFrom bkd bsz blk bhm btg bvl akd asz alk ahm atg avl = some (akd_o, asz_o, alk_o, ahm_o, atg_o, avl_o)) : Met l yX1_copyFrom wsX1_copyFrom ({ frames := 1, cells := 0, slots := 0, locals := 48 } : Room) (pcW [.ref a0, .ref b0] (dC, dI) vwCl [(cI, .int)] (wX1X1b cI a0 a1 a2 a3 a4 a5 a6 b0 b1 b2 b3 b4 b5 b6 akd asz alk ahm atg avl bkd bsz blk bhm btg bvl)) (qV (va_P (dC, dI) vwCl (wX1X1b cI a0 a1 a2 a3 a4 a5 a6 b0 b1 b2 b3 b4 b5 b6 akd_o asz_o alk_o ahm_o atg_o avl_o bkd bsz blk bhm btg bvl)) (inA [a0, a1, a2, a3, a4, a5, a6, b0, b1, b2, b3, b4, b5, b6])) 0 0 (inA [a0, a1, a2, a3, a4, a5, a6, b0, b1, b2, b3, b4, b5, b6]) := by
  refine Met.ofW (cc := cX1_copyFrom) (maxL := 2) (ret := none) (by decide) rfl ?_
  intro p e s m args below meth c s₁ B hml hv
  obtain ⟨rfl, hP, hK, hD0⟩ := hv
  have hx := B.exec
  have hb := B.bytes
  have hr := B.returns
  have hts := atoms_spec (ws := wsX1_copyFrom) B.pre
  have hown : s.vm.findClass RX1 = some m.cls := findClass_of_methodNamed B.named
  have hlocks := B.notSynchronized
  have hD := my_self (as := [a0, a1, a2, a3, a4, a5, a6, b0, b1, b2, b3, b4, b5, b6]) hD0 rfl
  have hS : va_S (inA [a0, a1, a2, a3, a4, a5, a6, b0, b1, b2, b3, b4, b5, b6]) s.heap s.heap [] := va_S.rf
  have hl := lv_entry ([.ref a0, .ref b0]) (n := 2) (Nat.le_of_ble_eq_true rfl)
  rw [lg_entry_eq]
  generalize (lg_sl ([.ref a0, .ref b0]) ++ List.replicate (2 - (lg_sl ([.ref a0, .ref b0])).length) Slot.unset).toArray = ls at hl ⊢
  have hl : lv_has ls 2 [(0, .ref a0), (1, .ref b0)] := hl
  unfold fX1_copyFrom at hf
  refine lv_aload_n hx hb dX1_copyFrom_0 rfl (lv_at hl 1 rfl) ?_
  refine va_get (D := (dC, dI)) (ci := 1) (v := .ref b1) (C := RX1) (T := TX1) (N := 6) hx hb hts (fun w h => mc (inX1 w h)) hown hK hP 7 rfl rfl 0 (by decide) (hts _ (mc q_27)) (fun _ h9 => h9) rfl dX1_copyFrom_1 ?_
  refine lv_iconst (v := 0) hx hb dX1_copyFrom_4 (by decide) ?_
  refine lv_aload_n hx hb dX1_copyFrom_5 rfl (lv_at hl 0 rfl) ?_
  refine va_get (D := (dC, dI)) (ci := 1) (v := .ref a1) (C := RX1) (T := TX1) (N := 6) hx hb hts (fun w h => mc (inX1 w h)) hown hK hP 0 rfl rfl 0 (by decide) (hts _ (mc q_27)) (fun _ h9 => h9) rfl dX1_copyFrom_6 ?_
  refine lv_iconst (v := 0) hx hb dX1_copyFrom_9 (by decide) ?_
  refine lv_aload_n hx hb dX1_copyFrom_10 rfl (lv_at hl 0 rfl) ?_
  refine va_get (D := (dC, dI)) (ci := 1) (v := .ref a1) (C := RX1) (T := TX1) (N := 6) hx hb hts (fun w h => mc (inX1 w h)) hown hK hP 0 rfl rfl 0 (by decide) (hts _ (mc q_27)) (fun _ h9 => h9) rfl dX1_copyFrom_11 ?_
  refine va_alen (v := 16) hx hb hK hP 1 0 rfl rfl rfl dX1_copyFrom_14 ?_
  obtain ⟨hiakd_15, akd_15, eakd_15, hf⟩ := acp_e hf
  refine rw_cpy (ws' := (wX1X1b cI a0 a1 a2 a3 a4 a5 a6 b0 b1 b2 b3 b4 b5 b6 akd_15 asz alk ahm atg avl bkd bsz blk bhm btg bvl)) hx hb (hml.trans hl.1.symm) hown (hts _ (mc q_99)) (hts _ (mc q_101)) (hts _ (mc q_100)) (hts _ (mc q_6)) hK hP hD hS 8 1 0 rfl rfl rfl hiakd_15 eakd_15 rfl (Nat.le_of_ble_eq_true rfl) (Nat.le_of_ble_eq_true rfl) dX1_copyFrom_15 (fun H locs hP hD hS => ?_)
  refine lv_aload_n hx hb dX1_copyFrom_18 rfl (lv_at hl 1 rfl) ?_
  refine va_get (D := (dC, dI)) (ci := 1) (v := .ref b2) (C := RX1) (T := TX1) (N := 6) hx hb hts (fun w h => mc (inX1 w h)) hown hK hP 7 rfl rfl 1 (by decide) (hts _ (mc q_28)) (fun _ h9 => h9) rfl dX1_copyFrom_19 ?_
  refine lv_iconst (v := 0) hx hb dX1_copyFrom_22 (by decide) ?_
  refine lv_aload_n hx hb dX1_copyFrom_23 rfl (lv_at hl 0 rfl) ?_
  refine va_get (D := (dC, dI)) (ci := 1) (v := .ref a2) (C := RX1) (T := TX1) (N := 6) hx hb hts (fun w h => mc (inX1 w h)) hown hK hP 0 rfl rfl 1 (by decide) (hts _ (mc q_28)) (fun _ h9 => h9) rfl dX1_copyFrom_24 ?_
  refine lv_iconst (v := 0) hx hb dX1_copyFrom_27 (by decide) ?_
  refine lv_aload_n hx hb dX1_copyFrom_28 rfl (lv_at hl 0 rfl) ?_
  refine va_get (D := (dC, dI)) (ci := 1) (v := .ref a2) (C := RX1) (T := TX1) (N := 6) hx hb hts (fun w h => mc (inX1 w h)) hown hK hP 0 rfl rfl 1 (by decide) (hts _ (mc q_28)) (fun _ h9 => h9) rfl dX1_copyFrom_29 ?_
  refine va_alen (v := 16) hx hb hK hP 2 0 rfl rfl rfl dX1_copyFrom_32 ?_
  obtain ⟨hiasz_33, asz_33, easz_33, hf⟩ := acp_e hf
  refine rw_cpy (ws' := (wX1X1b cI a0 a1 a2 a3 a4 a5 a6 b0 b1 b2 b3 b4 b5 b6 akd_15 asz_33 alk ahm atg avl bkd bsz blk bhm btg bvl)) hx hb (hml.trans hl.1.symm) hown (hts _ (mc q_99)) (hts _ (mc q_101)) (hts _ (mc q_100)) (hts _ (mc q_6)) hK hP hD hS 9 2 0 rfl rfl rfl hiasz_33 easz_33 rfl (Nat.le_of_ble_eq_true rfl) (Nat.le_of_ble_eq_true rfl) dX1_copyFrom_33 (fun H locs hP hD hS => ?_)
  refine lv_aload_n hx hb dX1_copyFrom_36 rfl (lv_at hl 1 rfl) ?_
  refine va_get (D := (dC, dI)) (ci := 1) (v := .ref b3) (C := RX1) (T := TX1) (N := 6) hx hb hts (fun w h => mc (inX1 w h)) hown hK hP 7 rfl rfl 2 (by decide) (hts _ (mc q_29)) (fun _ h9 => h9) rfl dX1_copyFrom_37 ?_
  refine lv_iconst (v := 0) hx hb dX1_copyFrom_40 (by decide) ?_
  refine lv_aload_n hx hb dX1_copyFrom_41 rfl (lv_at hl 0 rfl) ?_
  refine va_get (D := (dC, dI)) (ci := 1) (v := .ref a3) (C := RX1) (T := TX1) (N := 6) hx hb hts (fun w h => mc (inX1 w h)) hown hK hP 0 rfl rfl 2 (by decide) (hts _ (mc q_29)) (fun _ h9 => h9) rfl dX1_copyFrom_42 ?_
  refine lv_iconst (v := 0) hx hb dX1_copyFrom_45 (by decide) ?_
  refine lv_aload_n hx hb dX1_copyFrom_46 rfl (lv_at hl 0 rfl) ?_
  refine va_get (D := (dC, dI)) (ci := 1) (v := .ref a3) (C := RX1) (T := TX1) (N := 6) hx hb hts (fun w h => mc (inX1 w h)) hown hK hP 0 rfl rfl 2 (by decide) (hts _ (mc q_29)) (fun _ h9 => h9) rfl dX1_copyFrom_47 ?_
  refine va_alen (v := 16) hx hb hK hP 3 0 rfl rfl rfl dX1_copyFrom_50 ?_
  obtain ⟨hialk_51, alk_51, ealk_51, hf⟩ := acp_e hf
  refine rw_cpy (ws' := (wX1X1b cI a0 a1 a2 a3 a4 a5 a6 b0 b1 b2 b3 b4 b5 b6 akd_15 asz_33 alk_51 ahm atg avl bkd bsz blk bhm btg bvl)) hx hb (hml.trans hl.1.symm) hown (hts _ (mc q_99)) (hts _ (mc q_101)) (hts _ (mc q_100)) (hts _ (mc q_6)) hK hP hD hS 10 3 0 rfl rfl rfl hialk_51 ealk_51 rfl (Nat.le_of_ble_eq_true rfl) (Nat.le_of_ble_eq_true rfl) dX1_copyFrom_51 (fun H locs hP hD hS => ?_)
  refine lv_aload_n hx hb dX1_copyFrom_54 rfl (lv_at hl 1 rfl) ?_
  refine va_get (D := (dC, dI)) (ci := 1) (v := .ref b4) (C := RX1) (T := TX1) (N := 6) hx hb hts (fun w h => mc (inX1 w h)) hown hK hP 7 rfl rfl 3 (by decide) (hts _ (mc q_30)) (fun _ h9 => h9) rfl dX1_copyFrom_55 ?_
  refine lv_iconst (v := 0) hx hb dX1_copyFrom_58 (by decide) ?_
  refine lv_aload_n hx hb dX1_copyFrom_59 rfl (lv_at hl 0 rfl) ?_
  refine va_get (D := (dC, dI)) (ci := 1) (v := .ref a4) (C := RX1) (T := TX1) (N := 6) hx hb hts (fun w h => mc (inX1 w h)) hown hK hP 0 rfl rfl 3 (by decide) (hts _ (mc q_30)) (fun _ h9 => h9) rfl dX1_copyFrom_60 ?_
  refine lv_iconst (v := 0) hx hb dX1_copyFrom_63 (by decide) ?_
  refine lv_aload_n hx hb dX1_copyFrom_64 rfl (lv_at hl 0 rfl) ?_
  refine va_get (D := (dC, dI)) (ci := 1) (v := .ref a4) (C := RX1) (T := TX1) (N := 6) hx hb hts (fun w h => mc (inX1 w h)) hown hK hP 0 rfl rfl 3 (by decide) (hts _ (mc q_30)) (fun _ h9 => h9) rfl dX1_copyFrom_65 ?_
  refine va_alen (v := 16) hx hb hK hP 4 0 rfl rfl rfl dX1_copyFrom_68 ?_
  obtain ⟨hiahm_69, ahm_69, eahm_69, hf⟩ := acp_e hf
  refine rw_cpy (ws' := (wX1X1b cI a0 a1 a2 a3 a4 a5 a6 b0 b1 b2 b3 b4 b5 b6 akd_15 asz_33 alk_51 ahm_69 atg avl bkd bsz blk bhm btg bvl)) hx hb (hml.trans hl.1.symm) hown (hts _ (mc q_99)) (hts _ (mc q_101)) (hts _ (mc q_100)) (hts _ (mc q_6)) hK hP hD hS 11 4 0 rfl rfl rfl hiahm_69 eahm_69 rfl (Nat.le_of_ble_eq_true rfl) (Nat.le_of_ble_eq_true rfl) dX1_copyFrom_69 (fun H locs hP hD hS => ?_)
  refine lv_aload_n hx hb dX1_copyFrom_72 rfl (lv_at hl 1 rfl) ?_
  refine va_get (D := (dC, dI)) (ci := 1) (v := .ref b5) (C := RX1) (T := TX1) (N := 6) hx hb hts (fun w h => mc (inX1 w h)) hown hK hP 7 rfl rfl 4 (by decide) (hts _ (mc q_31)) (fun _ h9 => h9) rfl dX1_copyFrom_73 ?_
  refine lv_iconst (v := 0) hx hb dX1_copyFrom_76 (by decide) ?_
  refine lv_aload_n hx hb dX1_copyFrom_77 rfl (lv_at hl 0 rfl) ?_
  refine va_get (D := (dC, dI)) (ci := 1) (v := .ref a5) (C := RX1) (T := TX1) (N := 6) hx hb hts (fun w h => mc (inX1 w h)) hown hK hP 0 rfl rfl 4 (by decide) (hts _ (mc q_31)) (fun _ h9 => h9) rfl dX1_copyFrom_78 ?_
  refine lv_iconst (v := 0) hx hb dX1_copyFrom_81 (by decide) ?_
  refine lv_aload_n hx hb dX1_copyFrom_82 rfl (lv_at hl 0 rfl) ?_
  refine va_get (D := (dC, dI)) (ci := 1) (v := .ref a5) (C := RX1) (T := TX1) (N := 6) hx hb hts (fun w h => mc (inX1 w h)) hown hK hP 0 rfl rfl 4 (by decide) (hts _ (mc q_31)) (fun _ h9 => h9) rfl dX1_copyFrom_83 ?_
  refine va_alen (v := 512) hx hb hK hP 5 0 rfl rfl rfl dX1_copyFrom_86 ?_
  obtain ⟨hiatg_87, atg_87, eatg_87, hf⟩ := acp_e hf
  refine rw_cpy (ws' := (wX1X1b cI a0 a1 a2 a3 a4 a5 a6 b0 b1 b2 b3 b4 b5 b6 akd_15 asz_33 alk_51 ahm_69 atg_87 avl bkd bsz blk bhm btg bvl)) hx hb (hml.trans hl.1.symm) hown (hts _ (mc q_99)) (hts _ (mc q_101)) (hts _ (mc q_100)) (hts _ (mc q_6)) hK hP hD hS 12 5 0 rfl rfl rfl hiatg_87 eatg_87 rfl (Nat.le_of_ble_eq_true rfl) (Nat.le_of_ble_eq_true rfl) dX1_copyFrom_87 (fun H locs hP hD hS => ?_)
  refine lv_aload_n hx hb dX1_copyFrom_90 rfl (lv_at hl 1 rfl) ?_
  refine va_get (D := (dC, dI)) (ci := 1) (v := .ref b6) (C := RX1) (T := TX1) (N := 6) hx hb hts (fun w h => mc (inX1 w h)) hown hK hP 7 rfl rfl 5 (by decide) (hts _ (mc q_32)) (fun _ h9 => h9) rfl dX1_copyFrom_91 ?_
  refine lv_iconst (v := 0) hx hb dX1_copyFrom_94 (by decide) ?_
  refine lv_aload_n hx hb dX1_copyFrom_95 rfl (lv_at hl 0 rfl) ?_
  refine va_get (D := (dC, dI)) (ci := 1) (v := .ref a6) (C := RX1) (T := TX1) (N := 6) hx hb hts (fun w h => mc (inX1 w h)) hown hK hP 0 rfl rfl 5 (by decide) (hts _ (mc q_32)) (fun _ h9 => h9) rfl dX1_copyFrom_96 ?_
  refine lv_iconst (v := 0) hx hb dX1_copyFrom_99 (by decide) ?_
  refine lv_aload_n hx hb dX1_copyFrom_100 rfl (lv_at hl 0 rfl) ?_
  refine va_get (D := (dC, dI)) (ci := 1) (v := .ref a6) (C := RX1) (T := TX1) (N := 6) hx hb hts (fun w h => mc (inX1 w h)) hown hK hP 0 rfl rfl 5 (by decide) (hts _ (mc q_32)) (fun _ h9 => h9) rfl dX1_copyFrom_101 ?_
  refine va_alen (v := 128) hx hb hK hP 6 0 rfl rfl rfl dX1_copyFrom_104 ?_
  obtain ⟨hiavl_105, avl_105, eavl_105, hf⟩ := acp_e hf
  refine rw_cpy (ws' := (wX1X1b cI a0 a1 a2 a3 a4 a5 a6 b0 b1 b2 b3 b4 b5 b6 akd_15 asz_33 alk_51 ahm_69 atg_87 avl_105 bkd bsz blk bhm btg bvl)) hx hb (hml.trans hl.1.symm) hown (hts _ (mc q_99)) (hts _ (mc q_101)) (hts _ (mc q_100)) (hts _ (mc q_6)) hK hP hD hS 13 6 0 rfl rfl rfl hiavl_105 eavl_105 rfl (Nat.le_of_ble_eq_true rfl) (Nat.le_of_ble_eq_true rfl) dX1_copyFrom_105 (fun H locs hP hD hS => ?_)
  cases hf
  exact retV hx hb hr hlocks hP hS dX1_copyFrom_108
set_option maxHeartbeats 4000000 in
set_option maxRecDepth 100000 in
theorem cX0_clear_met (l : Launch) (dC : Nat → ClassId) (dI : Nat → Nat → Nat) (cI : ClassId) (g0 g1 : Nat) (gln : Int32) (grw : Nat → Int32) (gln_o : Int32) (hf : fX0_clear gln = some gln_o) : Met l yX0_clear wsX0_clear ({ frames := 0, cells := 0, slots := 0, locals := 0 } : Room) (pcW [.ref g0] (dC, dI) vwCl [(cI, .int)] (wX0 cI g0 g1 gln grw)) (qV (va_P (dC, dI) vwCl (wX0 cI g0 g1 gln_o grw)) (inA [g0, g1])) 0 0 (inA [g0, g1]) := by
  refine Met.ofW (cc := cX0_clear) (maxL := 1) (ret := none) (by decide) rfl ?_
  intro p e s m args below meth c s₁ B hml hv
  obtain ⟨rfl, hP, hK, hD0⟩ := hv
  have hx := B.exec
  have hb := B.bytes
  have hr := B.returns
  have hts := atoms_spec (ws := wsX0_clear) B.pre
  have hown : s.vm.findClass RX0 = some m.cls := findClass_of_methodNamed B.named
  have hlocks := B.notSynchronized
  have hD := my_self (as := [g0, g1]) hD0 rfl
  have hS : va_S (inA [g0, g1]) s.heap s.heap [] := va_S.rf
  have hl := lv_entry ([.ref g0]) (n := 1) (Nat.le_of_ble_eq_true rfl)
  rw [lg_entry_eq]
  generalize (lg_sl ([.ref g0]) ++ List.replicate (1 - (lg_sl ([.ref g0])).length) Slot.unset).toArray = ls at hl ⊢
  have hl : lv_has ls 1 [(0, .ref g0)] := hl
  unfold fX0_clear at hf
  refine lv_aload_n hx hb dX0_clear_0 rfl (lv_at hl 0 rfl) ?_
  refine lv_iconst (v := 0) hx hb dX0_clear_1 (by decide) ?_
  refine rw_put (D := (dC, dI)) (ci := 0) (v := .int 0) (ty := .int) (C := RX0) (T := TX0) (N := 2) (ws' := (wX0 cI g0 g1 0 grw)) hx hb hts (fun w h => mc (inX0 w h)) tyX0 tyX0_ok nmX0 hown hK hP hD hS 0 rfl rfl 1 (by decide) (hts _ (mc q_41)) (fun _ h9 => h9) rfl (by decide +kernel) rfl rfl (Nat.le_of_ble_eq_true rfl) rfl dX0_clear_2 (fun H locs hP hD hS => ?_)
  cases hf
  exact retV hx hb hr hlocks hP hS dX0_clear_5
set_option maxHeartbeats 4000000 in
set_option maxRecDepth 100000 in
theorem cX1_isFile_met (l : Launch) (dC : Nat → ClassId) (dI : Nat → Nat → Nat) (cI : ClassId) (a0 a1 a2 a3 a4 a5 a6 : Nat) (akd : Nat → Int32) (asz : Nat → Int32) (alk : Nat → Int32) (ahm : Nat → Int32) (atg : Nat → Int32) (avl : Nat → Int32) (x1 : Int32) (r : Int32) (hf : fX1_isFile x1 akd = some r) : Met l yX1_isFile wsX1_isFile ({ frames := 0, cells := 0, slots := 0, locals := 0 } : Room) (pcR [.ref a0, .int x1] (dC, dI) vwCl [(cI, .int)] (wX1 cI a0 a1 a2 a3 a4 a5 a6 akd asz alk ahm atg avl)) (qI r pT aN) 0 0 aN := by
  refine Met.ofW (cc := cX1_isFile) (maxL := 2) (ret := (some .boolean)) (by decide) rfl ?_
  intro p e s m args below meth c s₁ B hml hv
  obtain ⟨rfl, hP, hK⟩ := hv
  have hx := B.exec
  have hb := B.bytes
  have hr := B.returns
  have hts := atoms_spec (ws := wsX1_isFile) B.pre
  have hown : s.vm.findClass RX1 = some m.cls := findClass_of_methodNamed B.named
  have hlocks := B.notSynchronized
  have hS : va_S aN s.heap s.heap [] := va_S.rf
  have hl := lv_entry ([.ref a0, .int x1]) (n := 2) (Nat.le_of_ble_eq_true rfl)
  rw [lg_entry_eq]
  generalize (lg_sl ([.ref a0, .int x1]) ++ List.replicate (2 - (lg_sl ([.ref a0, .int x1])).length) Slot.unset).toArray = ls at hl ⊢
  have hl : lv_has ls 2 [(0, .ref a0), (1, .int x1)] := hl
  unfold fX1_isFile at hf
  refine lv_aload_n hx hb dX1_isFile_0 rfl (lv_at hl 0 rfl) ?_
  refine va_get (D := (dC, dI)) (ci := 1) (v := .ref a1) (C := RX1) (T := TX1) (N := 6) hx hb hts (fun w h => mc (inX1 w h)) hown hK hP 0 rfl rfl 0 (by decide) (hts _ (mc q_27)) (fun _ h9 => h9) rfl dX1_isFile_1 ?_
  refine lv_iload_n hx hb dX1_isFile_4 rfl (lv_at hl 1 rfl) ?_
  obtain ⟨hiv5, v5, ev5, hf⟩ := ard_e hf
  refine rw_ald hx hb hK hP 1 0 rfl rfl hiv5 ev5 dX1_isFile_5 ?_
  refine lv_iconst (v := 1) hx hb dX1_isFile_6 (by decide) ?_
  refine lv_icmp_ne (tgt := 14) hx hb dX1_isFile_7 (by decide) (fun c7 => ?_) (fun c7 => ?_)
  · have hf := it_f c7 hf
    refine lv_iconst (v := 0) hx hb dX1_isFile_14 (by decide) ?_
    cases hf
    exact retZ hx hb hr hlocks (by decide) trivial hS dX1_isFile_15
  · have hf := it_t c7 hf
    refine lv_iconst (v := 1) hx hb dX1_isFile_10 (by decide) ?_
    refine lv_goto (tgt := 15) hx hb dX1_isFile_11 (by decide) ?_
    cases hf
    exact retZ hx hb hr hlocks (by decide) trivial hS dX1_isFile_15
theorem gX1_blocks_40 : GoodIn wsX1_blocks (wsV RX1 40 RX1 yX1_isFile wsX1_isFile) := gIn (memV q_50 q_51 q_52 q_3 q_53)
set_option maxHeartbeats 4000000 in
set_option maxRecDepth 100000 in
theorem cX1_blocks_met (l : Launch) (dC : Nat → ClassId) (dI : Nat → Nat → Nat) (cI : ClassId) (a0 a1 a2 a3 a4 a5 a6 : Nat) (akd : Nat → Int32) (asz : Nat → Int32) (alk : Nat → Int32) (ahm : Nat → Int32) (atg : Nat → Int32) (avl : Nat → Int32) (x1 : Int32) (r : Int32) (hf : fX1_blocks x1 akd asz = some r) : Met l yX1_blocks wsX1_blocks ({ frames := 1, cells := 0, slots := 0, locals := 21 } : Room) (pcR [.ref a0, .int x1] (dC, dI) vwCl [(cI, .int)] (wX1 cI a0 a1 a2 a3 a4 a5 a6 akd asz alk ahm atg avl)) (qI r pT aN) 0 0 aN := by
  refine Met.ofW (cc := cX1_blocks) (maxL := 2) (ret := (some .int)) (by decide) rfl ?_
  intro p e s m args below meth c s₁ B hml hv
  obtain ⟨rfl, hP, hK⟩ := hv
  have hx := B.exec
  have hb := B.bytes
  have hr := B.returns
  have hts := atoms_spec (ws := wsX1_blocks) B.pre
  have hown : s.vm.findClass RX1 = some m.cls := findClass_of_methodNamed B.named
  have hlocks := B.notSynchronized
  have hS : va_S aN s.heap s.heap [] := va_S.rf
  have hl := lv_entry ([.ref a0, .int x1]) (n := 2) (Nat.le_of_ble_eq_true rfl)
  rw [lg_entry_eq]
  generalize (lg_sl ([.ref a0, .int x1]) ++ List.replicate (2 - (lg_sl ([.ref a0, .int x1])).length) Slot.unset).toArray = ls at hl ⊢
  have hl : lv_has ls 2 [(0, .ref a0), (1, .int x1)] := hl
  unfold fX1_blocks at hf
  refine lv_aload_n hx hb dX1_blocks_0 rfl (lv_at hl 0 rfl) ?_
  refine va_get (D := (dC, dI)) (ci := 1) (v := .ref a1) (C := RX1) (T := TX1) (N := 6) hx hb hts (fun w h => mc (inX1 w h)) hown hK hP 0 rfl rfl 0 (by decide) (hts _ (mc q_27)) (fun _ h9 => h9) rfl dX1_blocks_1 ?_
  refine lv_iload_n hx hb dX1_blocks_4 rfl (lv_at hl 1 rfl) ?_
  obtain ⟨hiv5, v5, ev5, hf⟩ := ard_e hf
  refine rw_ald hx hb hK hP 1 0 rfl rfl hiv5 ev5 dX1_blocks_5 ?_
  refine lv_if_ne (tgt := 11) hx hb dX1_blocks_6 (by decide) (fun c6 => ?_) (fun c6 => ?_)
  · have hf := it_f c6 hf
    refine lv_aload_n hx hb dX1_blocks_11 rfl (lv_at hl 0 rfl) ?_
    refine lv_iload_n hx hb dX1_blocks_12 rfl (lv_at hl 1 rfl) ?_
    obtain ⟨r13, hc13, hf⟩ := bn1_e hf
    refine callRi (va_runV (As := [.int x1]) (rest := []) ⟨hx, hb, hml, hown, hts⟩ (cX1_isFile_met l dC dI cI a0 a1 a2 a3 a4 a5 a6 akd asz alk ahm atg avl x1 r13 hc13) (cwV 1 hts gX1_blocks_40 rfl rfl rfl (by decide +kernel) ⟨Nat.le_of_ble_eq_true rfl, Nat.le_of_ble_eq_true rfl⟩) (preRV (ci := 1) (q0 := 0) hK (hP.sub (ws' := (wX1 cI a0 a1 a2 a3 a4 a5 a6 akd asz alk ahm atg avl)) [0, 1, 2, 3, 4, 5, 6] rfl) rfl rfl) rfl rfl hl.1 rfl (lv_room (Nat.le_of_ble_eq_true rfl)) dX1_blocks_13 ⟨Nat.le_of_ble_eq_true rfl, Nat.le_of_ble_eq_true rfl⟩) hS hP (fun H locs hP hS => ?_)
    refine lv_if_eq (tgt := 30) hx hb dX1_blocks_16 (by decide) (fun c16 => ?_) (fun c16 => ?_)
    · have hf := it_t c16 hf
      refine lv_iconst (v := 1) hx hb dX1_blocks_30 (by decide) ?_
      cases hf
      exact retI hx hb hr hlocks trivial hS dX1_blocks_31
    · have hf := it_f c16 hf
      refine lv_iconst (v := 1) hx hb dX1_blocks_19 (by decide) ?_
      refine lv_aload_n hx hb dX1_blocks_20 rfl (lv_at hl 0 rfl) ?_
      refine va_get (D := (dC, dI)) (ci := 1) (v := .ref a2) (C := RX1) (T := TX1) (N := 6) hx hb hts (fun w h => mc (inX1 w h)) hown hK hP 0 rfl rfl 1 (by decide) (hts _ (mc q_28)) (fun _ h9 => h9) rfl dX1_blocks_21 ?_
      refine lv_iload_n hx hb dX1_blocks_24 rfl (lv_at hl 1 rfl) ?_
      obtain ⟨hiv25, v25, ev25, hf⟩ := ard_e hf
      refine rw_ald hx hb hK hP 2 0 rfl rfl hiv25 ev25 dX1_blocks_25 ?_
      obtain ⟨v26, ev26, hf⟩ := slet_e hf
      refine lv_iadd hx hb dX1_blocks_26 ?_
      refine rw_nm ev26 ?_
      refine lv_goto (tgt := 31) hx hb dX1_blocks_27 (by decide) ?_
      cases hf
      exact retI hx hb hr hlocks trivial hS dX1_blocks_31
  · have hf := it_t c6 hf
    refine lv_iconst (v := 0) hx hb dX1_blocks_9 (by decide) ?_
    cases hf
    exact retI hx hb hr hlocks trivial hS dX1_blocks_10
theorem gX1_live_44 : GoodIn wsX1_live (wsV RX1 44 RX1 yX1_blocks wsX1_blocks) := gIn (memV q_46 q_47 q_48 q_3 q_49)
set_option maxHeartbeats 4000000 in
set_option maxRecDepth 100000 in
theorem wbX1_live_4 {p : Program} {l : Launch} {e : Env} {s : State} {m : MethodId} {args : Array Value} {below : List Frame} {meth : Method} {c : Code} {dC : Nat → ClassId} {dI : Nat → Nat → Nat} {cI : ClassId} (hx : p.tables.exec = Jvm.exec) (hb : c.code = cX1_live) (hml : c.maxLocals = 3) (hown : s.vm.findClass RX1 = some m.cls) (hts : ∀ w ∈ wsX1_live, w.before args s = true) (hr : meth.sig.returnType = (some .int)) (hlocks : meth.locks = false) (hK : va_K (dC, dI) vwCl [(cI, .int)] s) (a0 a1 a2 a3 a4 a5 a6 : Nat) (akd : Nat → Int32) (asz : Nat → Int32) (alk : Nat → Int32) (ahm : Nat → Int32) (atg : Nat → Int32) (avl : Nat → Int32) (r : Int32) : ∀ (n : Nat), ∀ (x1 : Int32) (x2 : Int32) (H : Heap) (locs : List Loc), va_P (dC, dI) vwCl (wX1 cI a0 a1 a2 a3 a4 a5 a6 akd asz alk ahm atg avl) H → va_S aN s.heap H locs → ∀ (ls : Array Slot), lv_has ls 3 [(0, .ref a0), (1, .int x1), (2, .int x2)] → fX1_live_b4 akd asz n x1 x2 = some r → W p l e ({ frames := 2, cells := 0, slots := 0, locals := 42 } : Room) s m args below meth c H locs 0 0 (MQ below (qI r pT aN) args s 0 0 aN) (F0 m 4 ls []) := by
  intro n
  induction n with
  | zero =>
    intro x1 x2 H locs hP hS ls hl hf
    cases hf
  | succ n ih =>
    intro x1 x2 H locs hP hS ls hl hf
    rw [fX1_live_b4] at hf
    refine lv_iload_n hx hb dX1_live_4 rfl (lv_at hl 2 rfl) ?_
    refine lv_bipush (v := 16) hx hb dX1_live_5 (by decide) ?_
    refine lv_icmp_ge (tgt := 24) hx hb dX1_live_7 (by decide) (fun c7 => ?_) (fun c7 => ?_)
    · have hf := it_t c7 hf
      refine lv_iload_n hx hb dX1_live_24 rfl (lv_at hl 1 rfl) ?_
      cases hf
      exact retI hx hb hr hlocks trivial hS dX1_live_25
    · have hf := it_f c7 hf
      refine lv_iload_n hx hb dX1_live_10 rfl (lv_at hl 1 rfl) ?_
      refine lv_aload_n hx hb dX1_live_11 rfl (lv_at hl 0 rfl) ?_
      refine lv_iload_n hx hb dX1_live_12 rfl (lv_at hl 2 rfl) ?_
      obtain ⟨r13, hc13, hf⟩ := bn1_e hf
      refine callRi (va_runV (As := [.int x2]) (rest := [.int x1]) ⟨hx, hb, hml, hown, hts⟩ (cX1_blocks_met l dC dI cI a0 a1 a2 a3 a4 a5 a6 akd asz alk ahm atg avl x2 r13 hc13) (cwV 1 hts gX1_live_44 rfl rfl rfl (by decide +kernel) ⟨Nat.le_of_ble_eq_true rfl, Nat.le_of_ble_eq_true rfl⟩) (preRV (ci := 1) (q0 := 0) hK (hP.sub (ws' := (wX1 cI a0 a1 a2 a3 a4 a5 a6 akd asz alk ahm atg avl)) [0, 1, 2, 3, 4, 5, 6] rfl) rfl rfl) rfl rfl hl.1 rfl (lv_room (Nat.le_of_ble_eq_true rfl)) dX1_live_13 ⟨Nat.le_of_ble_eq_true rfl, Nat.le_of_ble_eq_true rfl⟩) hS hP (fun H locs hP hS => ?_)
      obtain ⟨v16, ev16, hf⟩ := slet_e hf
      refine lv_iadd hx hb dX1_live_16 ?_
      refine rw_nm ev16 ?_
      refine lv_istore_n (lv' := [(1, .int v16), (0, .ref a0), (2, .int x2)]) hx hb dX1_live_17 rfl hl (by decide) rfl (fun ls hl => ?_)
      obtain ⟨v18, ev18, hf⟩ := slet_e hf
      refine lv_iinc (v := v18) (lv' := [(2, .int v18), (1, .int v16), (0, .ref a0)]) hx hb dX1_live_18 hl (k := 2) rfl (by rw [ev18]; rfl) (by decide) rfl (fun ls hl => ?_)
      refine lv_goto (tgt := 4) hx hb dX1_live_21 (by decide) ?_
      exact ih v16 v18 _ _ hP hS _ (lv_sub hl [2, 1, 0] rfl) hf
set_option maxHeartbeats 4000000 in
set_option maxRecDepth 100000 in
theorem cX1_live_met (l : Launch) (dC : Nat → ClassId) (dI : Nat → Nat → Nat) (cI : ClassId) (a0 a1 a2 a3 a4 a5 a6 : Nat) (akd : Nat → Int32) (asz : Nat → Int32) (alk : Nat → Int32) (ahm : Nat → Int32) (atg : Nat → Int32) (avl : Nat → Int32) (r : Int32) (hf : fX1_live akd asz = some r) : Met l yX1_live wsX1_live ({ frames := 2, cells := 0, slots := 0, locals := 42 } : Room) (pcR [.ref a0] (dC, dI) vwCl [(cI, .int)] (wX1 cI a0 a1 a2 a3 a4 a5 a6 akd asz alk ahm atg avl)) (qI r pT aN) 0 0 aN := by
  refine Met.ofW (cc := cX1_live) (maxL := 3) (ret := (some .int)) (by decide) rfl ?_
  intro p e s m args below meth c s₁ B hml hv
  obtain ⟨rfl, hP, hK⟩ := hv
  have hx := B.exec
  have hb := B.bytes
  have hr := B.returns
  have hts := atoms_spec (ws := wsX1_live) B.pre
  have hown : s.vm.findClass RX1 = some m.cls := findClass_of_methodNamed B.named
  have hlocks := B.notSynchronized
  have hS : va_S aN s.heap s.heap [] := va_S.rf
  have hl := lv_entry ([.ref a0]) (n := 3) (Nat.le_of_ble_eq_true rfl)
  rw [lg_entry_eq]
  generalize (lg_sl ([.ref a0]) ++ List.replicate (3 - (lg_sl ([.ref a0])).length) Slot.unset).toArray = ls at hl ⊢
  have hl : lv_has ls 3 [(0, .ref a0)] := hl
  unfold fX1_live at hf
  refine lv_iconst (v := 0) hx hb dX1_live_0 (by decide) ?_
  refine lv_istore_n (lv' := [(1, .int 0), (0, .ref a0)]) hx hb dX1_live_1 rfl hl (by decide) rfl (fun ls hl => ?_)
  refine lv_iconst (v := 0) hx hb dX1_live_2 (by decide) ?_
  refine lv_istore_n (lv' := [(2, .int 0), (1, .int 0), (0, .ref a0)]) hx hb dX1_live_3 rfl hl (by decide) rfl (fun ls hl => ?_)
  exact wbX1_live_4 hx hb hml hown hts hr hlocks hK a0 a1 a2 a3 a4 a5 a6 akd asz alk ahm atg avl r 2000 0 0 _ _ hP hS _ (lv_sub hl [2, 1, 0] rfl) hf
set_option maxHeartbeats 4000000 in
set_option maxRecDepth 100000 in
theorem cX0_append_met (l : Launch) (dC : Nat → ClassId) (dI : Nat → Nat → Nat) (cI : ClassId) (g0 g1 : Nat) (gln : Int32) (grw : Nat → Int32) (x1 : Int32) (x2 : Int32) (x3 : Int32) (x4 : Int32) (x5 : Int32) (gln_o : Int32) (grw_o : Nat → Int32) (hf : fX0_append x1 x2 x3 x4 x5 gln grw = some (gln_o, grw_o)) : Met l yX0_append wsX0_append ({ frames := 0, cells := 0, slots := 0, locals := 0 } : Room) (pcW [.ref g0, .int x1, .int x2, .int x3, .int x4, .int x5] (dC, dI) vwCl [(cI, .int)] (wX0 cI g0 g1 gln grw)) (qV (va_P (dC, dI) vwCl (wX0 cI g0 g1 gln_o grw_o)) (inA [g0, g1])) 0 0 (inA [g0, g1]) := by
  refine Met.ofW (cc := cX0_append) (maxL := 7) (ret := none) (by decide) rfl ?_
  intro p e s m args below meth c s₁ B hml hv
  obtain ⟨rfl, hP, hK, hD0⟩ := hv
  have hx := B.exec
  have hb := B.bytes
  have hr := B.returns
  have hts := atoms_spec (ws := wsX0_append) B.pre
  have hown : s.vm.findClass RX0 = some m.cls := findClass_of_methodNamed B.named
  have hlocks := B.notSynchronized
  have hD := my_self (as := [g0, g1]) hD0 rfl
  have hS : va_S (inA [g0, g1]) s.heap s.heap [] := va_S.rf
  have hl := lv_entry ([.ref g0, .int x1, .int x2, .int x3, .int x4, .int x5]) (n := 7) (Nat.le_of_ble_eq_true rfl)
  rw [lg_entry_eq]
  generalize (lg_sl ([.ref g0, .int x1, .int x2, .int x3, .int x4, .int x5]) ++ List.replicate (7 - (lg_sl ([.ref g0, .int x1, .int x2, .int x3, .int x4, .int x5])).length) Slot.unset).toArray = ls at hl ⊢
  have hl : lv_has ls 7 [(0, .ref g0), (1, .int x1), (2, .int x2), (3, .int x3), (4, .int x4), (5, .int x5)] := hl
  unfold fX0_append at hf
  refine lv_aload_n hx hb dX0_append_0 rfl (lv_at hl 0 rfl) ?_
  refine va_get (D := (dC, dI)) (ci := 0) (v := .int gln) (C := RX0) (T := TX0) (N := 2) hx hb hts (fun w h => mc (inX0 w h)) hown hK hP 0 rfl rfl 1 (by decide) (hts _ (mc q_41)) (fun _ h9 => h9) rfl dX0_append_1 ?_
  refine lv_bipush (v := 48) hx hb dX0_append_4 (by decide) ?_
  refine lv_icmp_lt (tgt := 10) hx hb dX0_append_6 (by decide) (fun c6 => ?_) (fun c6 => ?_)
  · have hf := it_t c6 hf
    refine lv_aload_n hx hb dX0_append_10 rfl (lv_at hl 0 rfl) ?_
    refine va_get (D := (dC, dI)) (ci := 0) (v := .int gln) (C := RX0) (T := TX0) (N := 2) hx hb hts (fun w h => mc (inX0 w h)) hown hK hP 0 rfl rfl 1 (by decide) (hts _ (mc q_41)) (fun _ h9 => h9) rfl dX0_append_11 ?_
    refine lv_iconst (v := 5) hx hb dX0_append_14 (by decide) ?_
    obtain ⟨v15, ev15, hf⟩ := slet_e hf
    refine lv_imul hx hb dX0_append_15 ?_
    refine rw_nm ev15 ?_
    refine lv_istore (lv' := [(6, .int v15), (0, .ref g0), (1, .int x1), (2, .int x2), (3, .int x3), (4, .int x4), (5, .int x5)]) hx hb dX0_append_16 hl (by decide) rfl (fun ls hl => ?_)
    refine lv_aload_n hx hb dX0_append_18 rfl (lv_at hl 1 rfl) ?_
    refine va_get (D := (dC, dI)) (ci := 0) (v := .ref g1) (C := RX0) (T := TX0) (N := 2) hx hb hts (fun w h => mc (inX0 w h)) hown hK hP 0 rfl rfl 0 (by decide) (hts _ (mc q_40)) (fun _ h9 => h9) rfl dX0_append_19 ?_
    refine lv_iload hx hb dX0_append_22 (lv_at hl 0 rfl) ?_
    refine lv_iload_n hx hb dX0_append_24 rfl (lv_at hl 2 rfl) ?_
    obtain ⟨higrw_25, grw_25, egrw_25, hf⟩ := awr_e hf
    refine rw_ast (ws' := (wX0 cI g0 g1 gln grw_25)) hx hb hK hP hD hS 1 0 rfl rfl higrw_25 egrw_25 rfl dX0_append_25 (fun H locs hP hD hS => ?_)
    refine lv_aload_n hx hb dX0_append_26 rfl (lv_at hl 1 rfl) ?_
    refine va_get (D := (dC, dI)) (ci := 0) (v := .ref g1) (C := RX0) (T := TX0) (N := 2) hx hb hts (fun w h => mc (inX0 w h)) hown hK hP 0 rfl rfl 0 (by decide) (hts _ (mc q_40)) (fun _ h9 => h9) rfl dX0_append_27 ?_
    refine lv_iload hx hb dX0_append_30 (lv_at hl 0 rfl) ?_
    refine lv_iconst (v := 1) hx hb dX0_append_32 (by decide) ?_
    obtain ⟨v33, ev33, hf⟩ := slet_e hf
    refine lv_iadd hx hb dX0_append_33 ?_
    refine rw_nm ev33 ?_
    refine lv_iload_n hx hb dX0_append_34 rfl (lv_at hl 3 rfl) ?_
    obtain ⟨higrw_35, grw_35, egrw_35, hf⟩ := awr_e hf
    refine rw_ast (ws' := (wX0 cI g0 g1 gln grw_35)) hx hb hK hP hD hS 1 0 rfl rfl higrw_35 egrw_35 rfl dX0_append_35 (fun H locs hP hD hS => ?_)
    refine lv_aload_n hx hb dX0_append_36 rfl (lv_at hl 1 rfl) ?_
    refine va_get (D := (dC, dI)) (ci := 0) (v := .ref g1) (C := RX0) (T := TX0) (N := 2) hx hb hts (fun w h => mc (inX0 w h)) hown hK hP 0 rfl rfl 0 (by decide) (hts _ (mc q_40)) (fun _ h9 => h9) rfl dX0_append_37 ?_
    refine lv_iload hx hb dX0_append_40 (lv_at hl 0 rfl) ?_
    refine lv_iconst (v := 2) hx hb dX0_append_42 (by decide) ?_
    obtain ⟨v43, ev43, hf⟩ := slet_e hf
    refine lv_iadd hx hb dX0_append_43 ?_
    refine rw_nm ev43 ?_
    refine lv_iload_n hx hb dX0_append_44 rfl (lv_at hl 4 rfl) ?_
    obtain ⟨higrw_45, grw_45, egrw_45, hf⟩ := awr_e hf
    refine rw_ast (ws' := (wX0 cI g0 g1 gln grw_45)) hx hb hK hP hD hS 1 0 rfl rfl higrw_45 egrw_45 rfl dX0_append_45 (fun H locs hP hD hS => ?_)
    refine lv_aload_n hx hb dX0_append_46 rfl (lv_at hl 1 rfl) ?_
    refine va_get (D := (dC, dI)) (ci := 0) (v := .ref g1) (C := RX0) (T := TX0) (N := 2) hx hb hts (fun w h => mc (inX0 w h)) hown hK hP 0 rfl rfl 0 (by decide) (hts _ (mc q_40)) (fun _ h9 => h9) rfl dX0_append_47 ?_
    refine lv_iload hx hb dX0_append_50 (lv_at hl 0 rfl) ?_
    refine lv_iconst (v := 3) hx hb dX0_append_52 (by decide) ?_
    obtain ⟨v53, ev53, hf⟩ := slet_e hf
    refine lv_iadd hx hb dX0_append_53 ?_
    refine rw_nm ev53 ?_
    refine lv_iload hx hb dX0_append_54 (lv_at hl 5 rfl) ?_
    obtain ⟨higrw_56, grw_56, egrw_56, hf⟩ := awr_e hf
    refine rw_ast (ws' := (wX0 cI g0 g1 gln grw_56)) hx hb hK hP hD hS 1 0 rfl rfl higrw_56 egrw_56 rfl dX0_append_56 (fun H locs hP hD hS => ?_)
    refine lv_aload_n hx hb dX0_append_57 rfl (lv_at hl 1 rfl) ?_
    refine va_get (D := (dC, dI)) (ci := 0) (v := .ref g1) (C := RX0) (T := TX0) (N := 2) hx hb hts (fun w h => mc (inX0 w h)) hown hK hP 0 rfl rfl 0 (by decide) (hts _ (mc q_40)) (fun _ h9 => h9) rfl dX0_append_58 ?_
    refine lv_iload hx hb dX0_append_61 (lv_at hl 0 rfl) ?_
    refine lv_iconst (v := 4) hx hb dX0_append_63 (by decide) ?_
    obtain ⟨v64, ev64, hf⟩ := slet_e hf
    refine lv_iadd hx hb dX0_append_64 ?_
    refine rw_nm ev64 ?_
    refine lv_iload hx hb dX0_append_65 (lv_at hl 6 rfl) ?_
    obtain ⟨higrw_67, grw_67, egrw_67, hf⟩ := awr_e hf
    refine rw_ast (ws' := (wX0 cI g0 g1 gln grw_67)) hx hb hK hP hD hS 1 0 rfl rfl higrw_67 egrw_67 rfl dX0_append_67 (fun H locs hP hD hS => ?_)
    refine lv_aload_n hx hb dX0_append_68 rfl (lv_at hl 1 rfl) ?_
    refine lv_dup hx hb dX0_append_69 rfl ?_
    refine va_get (D := (dC, dI)) (ci := 0) (v := .int gln) (C := RX0) (T := TX0) (N := 2) hx hb hts (fun w h => mc (inX0 w h)) hown hK hP 0 rfl rfl 1 (by decide) (hts _ (mc q_41)) (fun _ h9 => h9) rfl dX0_append_70 ?_
    refine lv_iconst (v := 1) hx hb dX0_append_73 (by decide) ?_
    obtain ⟨v74, ev74, hf⟩ := slet_e hf
    refine lv_iadd hx hb dX0_append_74 ?_
    refine rw_nm ev74 ?_
    refine rw_put (D := (dC, dI)) (ci := 0) (v := .int v74) (ty := .int) (C := RX0) (T := TX0) (N := 2) (ws' := (wX0 cI g0 g1 v74 grw_67)) hx hb hts (fun w h => mc (inX0 w h)) tyX0 tyX0_ok nmX0 hown hK hP hD hS 0 rfl rfl 1 (by decide) (hts _ (mc q_41)) (fun _ h9 => h9) rfl (by decide +kernel) rfl rfl (Nat.le_of_ble_eq_true rfl) rfl dX0_append_75 (fun H locs hP hD hS => ?_)
    cases hf
    exact retV hx hb hr hlocks hP hS dX0_append_78
  · have hf := it_f c6 hf
    cases hf
    exact retV hx hb hr hlocks hP hS dX0_append_9
set_option maxHeartbeats 4000000 in
set_option maxRecDepth 100000 in
theorem cX0_length_met (l : Launch) (dC : Nat → ClassId) (dI : Nat → Nat → Nat) (cI : ClassId) (g0 g1 : Nat) (gln : Int32) (grw : Nat → Int32) (r : Int32) (hf : fX0_length gln = some r) : Met l yX0_length wsX0_length ({ frames := 0, cells := 0, slots := 0, locals := 0 } : Room) (pcR [.ref g0] (dC, dI) vwCl [(cI, .int)] (wX0 cI g0 g1 gln grw)) (qI r pT aN) 0 0 aN := by
  refine Met.ofW (cc := cX0_length) (maxL := 1) (ret := (some .int)) (by decide) rfl ?_
  intro p e s m args below meth c s₁ B hml hv
  obtain ⟨rfl, hP, hK⟩ := hv
  have hx := B.exec
  have hb := B.bytes
  have hr := B.returns
  have hts := atoms_spec (ws := wsX0_length) B.pre
  have hown : s.vm.findClass RX0 = some m.cls := findClass_of_methodNamed B.named
  have hlocks := B.notSynchronized
  have hS : va_S aN s.heap s.heap [] := va_S.rf
  have hl := lv_entry ([.ref g0]) (n := 1) (Nat.le_of_ble_eq_true rfl)
  rw [lg_entry_eq]
  generalize (lg_sl ([.ref g0]) ++ List.replicate (1 - (lg_sl ([.ref g0])).length) Slot.unset).toArray = ls at hl ⊢
  have hl : lv_has ls 1 [(0, .ref g0)] := hl
  unfold fX0_length at hf
  refine lv_aload_n hx hb dX0_length_0 rfl (lv_at hl 0 rfl) ?_
  refine va_get (D := (dC, dI)) (ci := 0) (v := .int gln) (C := RX0) (T := TX0) (N := 2) hx hb hts (fun w h => mc (inX0 w h)) hown hK hP 0 rfl rfl 1 (by decide) (hts _ (mc q_41)) (fun _ h9 => h9) rfl dX0_length_1 ?_
  cases hf
  exact retI hx hb hr hlocks trivial hS dX0_length_4
set_option maxHeartbeats 4000000 in
set_option maxRecDepth 100000 in
theorem cX1_addEntry_met (l : Launch) (dC : Nat → ClassId) (dI : Nat → Nat → Nat) (cI : ClassId) (a0 a1 a2 a3 a4 a5 a6 : Nat) (akd : Nat → Int32) (asz : Nat → Int32) (alk : Nat → Int32) (ahm : Nat → Int32) (atg : Nat → Int32) (avl : Nat → Int32) (x1 : Int32) (x2 : Int32) (x3 : Int32) (asz_o : Nat → Int32) (alk_o : Nat → Int32) (ahm_o : Nat → Int32) (atg_o : Nat → Int32) (hf : fX1_addEntry x1 x2 x3 asz alk ahm atg = some (asz_o, alk_o, ahm_o, atg_o)) : Met l yX1_addEntry wsX1_addEntry ({ frames := 0, cells := 0, slots := 0, locals := 0 } : Room) (pcW [.ref a0, .int x1, .int x2, .int x3] (dC, dI) vwCl [(cI, .int)] (wX1 cI a0 a1 a2 a3 a4 a5 a6 akd asz alk ahm atg avl)) (qV (va_P (dC, dI) vwCl (wX1 cI a0 a1 a2 a3 a4 a5 a6 akd asz_o alk_o ahm_o atg_o avl)) (inA [a0, a1, a2, a3, a4, a5, a6])) 0 0 (inA [a0, a1, a2, a3, a4, a5, a6]) := by
  refine Met.ofW (cc := cX1_addEntry) (maxL := 4) (ret := none) (by decide) rfl ?_
  intro p e s m args below meth c s₁ B hml hv
  obtain ⟨rfl, hP, hK, hD0⟩ := hv
  have hx := B.exec
  have hb := B.bytes
  have hr := B.returns
  have hts := atoms_spec (ws := wsX1_addEntry) B.pre
  have hown : s.vm.findClass RX1 = some m.cls := findClass_of_methodNamed B.named
  have hlocks := B.notSynchronized
  have hD := my_self (as := [a0, a1, a2, a3, a4, a5, a6]) hD0 rfl
  have hS : va_S (inA [a0, a1, a2, a3, a4, a5, a6]) s.heap s.heap [] := va_S.rf
  have hl := lv_entry ([.ref a0, .int x1, .int x2, .int x3]) (n := 4) (Nat.le_of_ble_eq_true rfl)
  rw [lg_entry_eq]
  generalize (lg_sl ([.ref a0, .int x1, .int x2, .int x3]) ++ List.replicate (4 - (lg_sl ([.ref a0, .int x1, .int x2, .int x3])).length) Slot.unset).toArray = ls at hl ⊢
  have hl : lv_has ls 4 [(0, .ref a0), (1, .int x1), (2, .int x2), (3, .int x3)] := hl
  unfold fX1_addEntry at hf
  refine lv_aload_n hx hb dX1_addEntry_0 rfl (lv_at hl 0 rfl) ?_
  refine va_get (D := (dC, dI)) (ci := 1) (v := .ref a5) (C := RX1) (T := TX1) (N := 6) hx hb hts (fun w h => mc (inX1 w h)) hown hK hP 0 rfl rfl 4 (by decide) (hts _ (mc q_31)) (fun _ h9 => h9) rfl dX1_addEntry_1 ?_
  refine lv_iload_n hx hb dX1_addEntry_4 rfl (lv_at hl 1 rfl) ?_
  refine lv_bipush (v := 32) hx hb dX1_addEntry_5 (by decide) ?_
  obtain ⟨v7, ev7, hf⟩ := slet_e hf
  refine lv_imul hx hb dX1_addEntry_7 ?_
  refine rw_nm ev7 ?_
  refine lv_iload_n hx hb dX1_addEntry_8 rfl (lv_at hl 2 rfl) ?_
  obtain ⟨v9, ev9, hf⟩ := slet_e hf
  refine lv_iadd hx hb dX1_addEntry_9 ?_
  refine rw_nm ev9 ?_
  refine lv_iload_n hx hb dX1_addEntry_10 rfl (lv_at hl 3 rfl) ?_
  obtain ⟨hiatg_11, atg_11, eatg_11, hf⟩ := awr_e hf
  refine rw_ast (ws' := (wX1 cI a0 a1 a2 a3 a4 a5 a6 akd asz alk ahm atg_11 avl)) hx hb hK hP hD hS 5 0 rfl rfl hiatg_11 eatg_11 rfl dX1_addEntry_11 (fun H locs hP hD hS => ?_)
  refine lv_aload_n hx hb dX1_addEntry_12 rfl (lv_at hl 0 rfl) ?_
  refine va_get (D := (dC, dI)) (ci := 1) (v := .ref a2) (C := RX1) (T := TX1) (N := 6) hx hb hts (fun w h => mc (inX1 w h)) hown hK hP 0 rfl rfl 1 (by decide) (hts _ (mc q_28)) (fun _ h9 => h9) rfl dX1_addEntry_13 ?_
  refine lv_iload_n hx hb dX1_addEntry_16 rfl (lv_at hl 1 rfl) ?_
  refine lv_dup2_11 hx hb dX1_addEntry_17 rfl rfl ?_
  obtain ⟨hiv18, v18, ev18, hf⟩ := ard_e hf
  refine rw_ald hx hb hK hP 2 0 rfl rfl hiv18 ev18 dX1_addEntry_18 ?_
  refine lv_iconst (v := 1) hx hb dX1_addEntry_19 (by decide) ?_
  obtain ⟨v20, ev20, hf⟩ := slet_e hf
  refine lv_iadd hx hb dX1_addEntry_20 ?_
  refine rw_nm ev20 ?_
  obtain ⟨hiasz_21, asz_21, easz_21, hf⟩ := awr_e hf
  refine rw_ast (ws' := (wX1 cI a0 a1 a2 a3 a4 a5 a6 akd asz_21 alk ahm atg_11 avl)) hx hb hK hP hD hS 2 0 rfl rfl hiasz_21 easz_21 rfl dX1_addEntry_21 (fun H locs hP hD hS => ?_)
  refine lv_aload_n hx hb dX1_addEntry_22 rfl (lv_at hl 0 rfl) ?_
  refine va_get (D := (dC, dI)) (ci := 1) (v := .ref a3) (C := RX1) (T := TX1) (N := 6) hx hb hts (fun w h => mc (inX1 w h)) hown hK hP 0 rfl rfl 2 (by decide) (hts _ (mc q_29)) (fun _ h9 => h9) rfl dX1_addEntry_23 ?_
  refine lv_iload_n hx hb dX1_addEntry_26 rfl (lv_at hl 3 rfl) ?_
  refine lv_dup2_11 hx hb dX1_addEntry_27 rfl rfl ?_
  obtain ⟨hiv28, v28, ev28, hf⟩ := ard_e hf
  refine rw_ald hx hb hK hP 3 0 rfl rfl hiv28 ev28 dX1_addEntry_28 ?_
  refine lv_iconst (v := 1) hx hb dX1_addEntry_29 (by decide) ?_
  obtain ⟨v30, ev30, hf⟩ := slet_e hf
  refine lv_iadd hx hb dX1_addEntry_30 ?_
  refine rw_nm ev30 ?_
  obtain ⟨hialk_31, alk_31, ealk_31, hf⟩ := awr_e hf
  refine rw_ast (ws' := (wX1 cI a0 a1 a2 a3 a4 a5 a6 akd asz_21 alk_31 ahm atg_11 avl)) hx hb hK hP hD hS 3 0 rfl rfl hialk_31 ealk_31 rfl dX1_addEntry_31 (fun H locs hP hD hS => ?_)
  refine lv_aload_n hx hb dX1_addEntry_32 rfl (lv_at hl 0 rfl) ?_
  refine va_get (D := (dC, dI)) (ci := 1) (v := .ref a4) (C := RX1) (T := TX1) (N := 6) hx hb hts (fun w h => mc (inX1 w h)) hown hK hP 0 rfl rfl 3 (by decide) (hts _ (mc q_30)) (fun _ h9 => h9) rfl dX1_addEntry_33 ?_
  refine lv_iload_n hx hb dX1_addEntry_36 rfl (lv_at hl 3 rfl) ?_
  refine lv_iload_n hx hb dX1_addEntry_37 rfl (lv_at hl 1 rfl) ?_
  obtain ⟨hiahm_38, ahm_38, eahm_38, hf⟩ := awr_e hf
  refine rw_ast (ws' := (wX1 cI a0 a1 a2 a3 a4 a5 a6 akd asz_21 alk_31 ahm_38 atg_11 avl)) hx hb hK hP hD hS 4 0 rfl rfl hiahm_38 eahm_38 rfl dX1_addEntry_38 (fun H locs hP hD hS => ?_)
  cases hf
  exact retV hx hb hr hlocks hP hS dX1_addEntry_39
theorem gX1_addNode_48 : GoodIn wsX1_addNode (wsV RX1 48 RX1 yX1_leastFreeNode wsX1_leastFreeNode) := gIn (memV q_128 q_79 q_80 q_3 q_81)
theorem gX1_addNode_52 : GoodIn wsX1_addNode (wsV RX1 52 RX1 yX1_addEntry wsX1_addEntry) := gIn (memV q_129 q_130 q_131 q_3 q_132)
set_option maxHeartbeats 4000000 in
set_option maxRecDepth 100000 in
theorem cX1_addNode_met (l : Launch) (dC : Nat → ClassId) (dI : Nat → Nat → Nat) (cI : ClassId) (a0 a1 a2 a3 a4 a5 a6 : Nat) (akd : Nat → Int32) (asz : Nat → Int32) (alk : Nat → Int32) (ahm : Nat → Int32) (atg : Nat → Int32) (avl : Nat → Int32) (x1 : Int32) (x2 : Int32) (x3 : Int32) (akd_o : Nat → Int32) (asz_o : Nat → Int32) (alk_o : Nat → Int32) (ahm_o : Nat → Int32) (atg_o : Nat → Int32) (hf : fX1_addNode x1 x2 x3 akd asz alk ahm atg = some (akd_o, asz_o, alk_o, ahm_o, atg_o)) : Met l yX1_addNode wsX1_addNode ({ frames := 1, cells := 0, slots := 0, locals := 23 } : Room) (pcW [.ref a0, .int x1, .int x2, .int x3] (dC, dI) vwCl [(cI, .int)] (wX1 cI a0 a1 a2 a3 a4 a5 a6 akd asz alk ahm atg avl)) (qV (va_P (dC, dI) vwCl (wX1 cI a0 a1 a2 a3 a4 a5 a6 akd_o asz_o alk_o ahm_o atg_o avl)) (inA [a0, a1, a2, a3, a4, a5, a6])) 0 0 (inA [a0, a1, a2, a3, a4, a5, a6]) := by
  refine Met.ofW (cc := cX1_addNode) (maxL := 5) (ret := none) (by decide) rfl ?_
  intro p e s m args below meth c s₁ B hml hv
  obtain ⟨rfl, hP, hK, hD0⟩ := hv
  have hx := B.exec
  have hb := B.bytes
  have hr := B.returns
  have hts := atoms_spec (ws := wsX1_addNode) B.pre
  have hown : s.vm.findClass RX1 = some m.cls := findClass_of_methodNamed B.named
  have hlocks := B.notSynchronized
  have hD := my_self (as := [a0, a1, a2, a3, a4, a5, a6]) hD0 rfl
  have hS : va_S (inA [a0, a1, a2, a3, a4, a5, a6]) s.heap s.heap [] := va_S.rf
  have hl := lv_entry ([.ref a0, .int x1, .int x2, .int x3]) (n := 5) (Nat.le_of_ble_eq_true rfl)
  rw [lg_entry_eq]
  generalize (lg_sl ([.ref a0, .int x1, .int x2, .int x3]) ++ List.replicate (5 - (lg_sl ([.ref a0, .int x1, .int x2, .int x3])).length) Slot.unset).toArray = ls at hl ⊢
  have hl : lv_has ls 5 [(0, .ref a0), (1, .int x1), (2, .int x2), (3, .int x3)] := hl
  unfold fX1_addNode at hf
  refine lv_aload_n hx hb dX1_addNode_0 rfl (lv_at hl 0 rfl) ?_
  obtain ⟨r1, hc1, hf⟩ := bn1_e hf
  refine callRi (va_runV (As := []) (rest := []) ⟨hx, hb, hml, hown, hts⟩ (cX1_leastFreeNode_met l dC dI cI a0 a1 a2 a3 a4 a5 a6 akd asz alk ahm atg avl r1 hc1) (cwV 0 hts gX1_addNode_48 rfl rfl rfl (by decide +kernel) ⟨Nat.le_of_ble_eq_true rfl, Nat.le_of_ble_eq_true rfl⟩) (preRV (ci := 1) (q0 := 0) hK (hP.sub (ws' := (wX1 cI a0 a1 a2 a3 a4 a5 a6 akd asz alk ahm atg avl)) [0, 1, 2, 3, 4, 5, 6] rfl) rfl rfl) rfl rfl hl.1 rfl (lv_room (Nat.le_of_ble_eq_true rfl)) dX1_addNode_1 ⟨Nat.le_of_ble_eq_true rfl, Nat.le_of_ble_eq_true rfl⟩) hS hP (fun H locs hP hS => ?_)
  refine lv_istore (lv' := [(4, .int r1), (0, .ref a0), (1, .int x1), (2, .int x2), (3, .int x3)]) hx hb dX1_addNode_4 hl (by decide) rfl (fun ls hl => ?_)
  refine lv_aload_n hx hb dX1_addNode_6 rfl (lv_at hl 1 rfl) ?_
  refine va_get (D := (dC, dI)) (ci := 1) (v := .ref a1) (C := RX1) (T := TX1) (N := 6) hx hb hts (fun w h => mc (inX1 w h)) hown hK hP 0 rfl rfl 0 (by decide) (hts _ (mc q_27)) (fun _ h9 => h9) rfl dX1_addNode_7 ?_
  refine lv_iload hx hb dX1_addNode_10 (lv_at hl 0 rfl) ?_
  refine lv_iload_n hx hb dX1_addNode_12 rfl (lv_at hl 4 rfl) ?_
  obtain ⟨hiakd_13, akd_13, eakd_13, hf⟩ := awr_e hf
  refine rw_ast (ws' := (wX1 cI a0 a1 a2 a3 a4 a5 a6 akd_13 asz alk ahm atg avl)) hx hb hK hP hD hS 1 0 rfl rfl hiakd_13 eakd_13 rfl dX1_addNode_13 (fun H locs hP hD hS => ?_)
  refine lv_aload_n hx hb dX1_addNode_14 rfl (lv_at hl 1 rfl) ?_
  refine lv_iload_n hx hb dX1_addNode_15 rfl (lv_at hl 2 rfl) ?_
  refine lv_iload_n hx hb dX1_addNode_16 rfl (lv_at hl 3 rfl) ?_
  refine lv_iload hx hb dX1_addNode_17 (lv_at hl 0 rfl) ?_
  obtain ⟨asz_19, alk_19, ahm_19, atg_19, hc19, hf⟩ := bn4_e hf
  refine callWv (wc := (wX1 cI a0 a1 a2 a3 a4 a5 a6 akd_13 asz alk ahm atg avl)) (w1 := (wX1 cI a0 a1 a2 a3 a4 a5 a6 akd_13 asz_19 alk_19 ahm_19 atg_19 avl)) (ws' := (wX1 cI a0 a1 a2 a3 a4 a5 a6 akd_13 asz_19 alk_19 ahm_19 atg_19 avl)) (va_runV (As := [.int x1, .int x2, .int r1]) (rest := []) ⟨hx, hb, hml, hown, hts⟩ (cX1_addEntry_met l dC dI cI a0 a1 a2 a3 a4 a5 a6 akd_13 asz alk ahm atg avl x1 x2 r1 asz_19 alk_19 ahm_19 atg_19 hc19) (cwV 3 hts gX1_addNode_52 rfl rfl rfl (by decide +kernel) ⟨Nat.le_of_ble_eq_true rfl, Nat.le_of_ble_eq_true rfl⟩) (preWV (ci := 1) (q0 := 0) hK (hP.sub (ws' := (wX1 cI a0 a1 a2 a3 a4 a5 a6 akd_13 asz alk ahm atg avl)) [0, 1, 2, 3, 4, 5, 6] rfl) (hD.sub (ws' := (wX1 cI a0 a1 a2 a3 a4 a5 a6 akd_13 asz alk ahm atg avl)) [0, 1, 2, 3, 4, 5, 6] (by decide) rfl) rfl rfl) rfl rfl hl.1 rfl (lv_room (Nat.le_of_ble_eq_true rfl)) dX1_addNode_19 ⟨Nat.le_of_ble_eq_true rfl, Nat.le_of_ble_eq_true rfl⟩) hS hP hD [0, 1, 2, 3, 4, 5, 6] rfl rfl rfl rfl rfl (fun H locs hP hD hS => ?_)
  cases hf
  exact retV hx hb hr hlocks hP hS dX1_addNode_22
theorem gX1_takeEntry_36 : GoodIn wsX1_takeEntry (wsV RX1 36 RX1 yX1_target wsX1_target) := gIn (memV q_141 q_75 q_76 q_3 q_77)
set_option maxHeartbeats 4000000 in
set_option maxRecDepth 100000 in
theorem cX1_takeEntry_met (l : Launch) (dC : Nat → ClassId) (dI : Nat → Nat → Nat) (cI : ClassId) (a0 a1 a2 a3 a4 a5 a6 : Nat) (akd : Nat → Int32) (asz : Nat → Int32) (alk : Nat → Int32) (ahm : Nat → Int32) (atg : Nat → Int32) (avl : Nat → Int32) (x1 : Int32) (x2 : Int32) (r : Int32) (asz_o : Nat → Int32) (alk_o : Nat → Int32) (atg_o : Nat → Int32) (hf : fX1_takeEntry x1 x2 asz alk atg = some (r, asz_o, alk_o, atg_o)) : Met l yX1_takeEntry wsX1_takeEntry ({ frames := 1, cells := 0, slots := 0, locals := 22 } : Room) (pcW [.ref a0, .int x1, .int x2] (dC, dI) vwCl [(cI, .int)] (wX1 cI a0 a1 a2 a3 a4 a5 a6 akd asz alk ahm atg avl)) (qI r (va_P (dC, dI) vwCl (wX1 cI a0 a1 a2 a3 a4 a5 a6 akd asz_o alk_o ahm atg_o avl)) (inA [a0, a1, a2, a3, a4, a5, a6])) 0 0 (inA [a0, a1, a2, a3, a4, a5, a6]) := by
  refine Met.ofW (cc := cX1_takeEntry) (maxL := 4) (ret := (some .int)) (by decide) rfl ?_
  intro p e s m args below meth c s₁ B hml hv
  obtain ⟨rfl, hP, hK, hD0⟩ := hv
  have hx := B.exec
  have hb := B.bytes
  have hr := B.returns
  have hts := atoms_spec (ws := wsX1_takeEntry) B.pre
  have hown : s.vm.findClass RX1 = some m.cls := findClass_of_methodNamed B.named
  have hlocks := B.notSynchronized
  have hD := my_self (as := [a0, a1, a2, a3, a4, a5, a6]) hD0 rfl
  have hS : va_S (inA [a0, a1, a2, a3, a4, a5, a6]) s.heap s.heap [] := va_S.rf
  have hl := lv_entry ([.ref a0, .int x1, .int x2]) (n := 4) (Nat.le_of_ble_eq_true rfl)
  rw [lg_entry_eq]
  generalize (lg_sl ([.ref a0, .int x1, .int x2]) ++ List.replicate (4 - (lg_sl ([.ref a0, .int x1, .int x2])).length) Slot.unset).toArray = ls at hl ⊢
  have hl : lv_has ls 4 [(0, .ref a0), (1, .int x1), (2, .int x2)] := hl
  unfold fX1_takeEntry at hf
  refine lv_aload_n hx hb dX1_takeEntry_0 rfl (lv_at hl 0 rfl) ?_
  refine lv_iload_n hx hb dX1_takeEntry_1 rfl (lv_at hl 1 rfl) ?_
  refine lv_iload_n hx hb dX1_takeEntry_2 rfl (lv_at hl 2 rfl) ?_
  obtain ⟨r3, hc3, hf⟩ := bn1_e hf
  refine callRi (va_runV (As := [.int x1, .int x2]) (rest := []) ⟨hx, hb, hml, hown, hts⟩ (cX1_target_met l dC dI cI a0 a1 a2 a3 a4 a5 a6 akd asz alk ahm atg avl x1 x2 r3 hc3) (cwV 2 hts gX1_takeEntry_36 rfl rfl rfl (by decide +kernel) ⟨Nat.le_of_ble_eq_true rfl, Nat.le_of_ble_eq_true rfl⟩) (preRV (ci := 1) (q0 := 0) hK (hP.sub (ws' := (wX1 cI a0 a1 a2 a3 a4 a5 a6 akd asz alk ahm atg avl)) [0, 1, 2, 3, 4, 5, 6] rfl) rfl rfl) rfl rfl hl.1 rfl (lv_room (Nat.le_of_ble_eq_true rfl)) dX1_takeEntry_3 ⟨Nat.le_of_ble_eq_true rfl, Nat.le_of_ble_eq_true rfl⟩) hS hP (fun H locs hP hS => ?_)
  refine lv_istore_n (lv' := [(3, .int r3), (0, .ref a0), (1, .int x1), (2, .int x2)]) hx hb dX1_takeEntry_6 rfl hl (by decide) rfl (fun ls hl => ?_)
  refine lv_aload_n hx hb dX1_takeEntry_7 rfl (lv_at hl 1 rfl) ?_
  refine va_get (D := (dC, dI)) (ci := 1) (v := .ref a5) (C := RX1) (T := TX1) (N := 6) hx hb hts (fun w h => mc (inX1 w h)) hown hK hP 0 rfl rfl 4 (by decide) (hts _ (mc q_31)) (fun _ h9 => h9) rfl dX1_takeEntry_8 ?_
  refine lv_iload_n hx hb dX1_takeEntry_11 rfl (lv_at hl 2 rfl) ?_
  refine lv_bipush (v := 32) hx hb dX1_takeEntry_12 (by decide) ?_
  obtain ⟨v14, ev14, hf⟩ := slet_e hf
  refine lv_imul hx hb dX1_takeEntry_14 ?_
  refine rw_nm ev14 ?_
  refine lv_iload_n hx hb dX1_takeEntry_15 rfl (lv_at hl 3 rfl) ?_
  obtain ⟨v16, ev16, hf⟩ := slet_e hf
  refine lv_iadd hx hb dX1_takeEntry_16 ?_
  refine rw_nm ev16 ?_
  refine lv_iconst (v := 0) hx hb dX1_takeEntry_17 (by decide) ?_
  obtain ⟨hiatg_18, atg_18, eatg_18, hf⟩ := awr_e hf
  refine rw_ast (ws' := (wX1 cI a0 a1 a2 a3 a4 a5 a6 akd asz alk ahm atg_18 avl)) hx hb hK hP hD hS 5 0 rfl rfl hiatg_18 eatg_18 rfl dX1_takeEntry_18 (fun H locs hP hD hS => ?_)
  refine lv_aload_n hx hb dX1_takeEntry_19 rfl (lv_at hl 1 rfl) ?_
  refine va_get (D := (dC, dI)) (ci := 1) (v := .ref a2) (C := RX1) (T := TX1) (N := 6) hx hb hts (fun w h => mc (inX1 w h)) hown hK hP 0 rfl rfl 1 (by decide) (hts _ (mc q_28)) (fun _ h9 => h9) rfl dX1_takeEntry_20 ?_
  refine lv_iload_n hx hb dX1_takeEntry_23 rfl (lv_at hl 2 rfl) ?_
  refine lv_dup2_11 hx hb dX1_takeEntry_24 rfl rfl ?_
  obtain ⟨hiv25, v25, ev25, hf⟩ := ard_e hf
  refine rw_ald hx hb hK hP 2 0 rfl rfl hiv25 ev25 dX1_takeEntry_25 ?_
  refine lv_iconst (v := 1) hx hb dX1_takeEntry_26 (by decide) ?_
  obtain ⟨v27, ev27, hf⟩ := slet_e hf
  refine lv_isub hx hb dX1_takeEntry_27 ?_
  refine rw_nm ev27 ?_
  obtain ⟨hiasz_28, asz_28, easz_28, hf⟩ := awr_e hf
  refine rw_ast (ws' := (wX1 cI a0 a1 a2 a3 a4 a5 a6 akd asz_28 alk ahm atg_18 avl)) hx hb hK hP hD hS 2 0 rfl rfl hiasz_28 easz_28 rfl dX1_takeEntry_28 (fun H locs hP hD hS => ?_)
  refine lv_aload_n hx hb dX1_takeEntry_29 rfl (lv_at hl 1 rfl) ?_
  refine va_get (D := (dC, dI)) (ci := 1) (v := .ref a3) (C := RX1) (T := TX1) (N := 6) hx hb hts (fun w h => mc (inX1 w h)) hown hK hP 0 rfl rfl 2 (by decide) (hts _ (mc q_29)) (fun _ h9 => h9) rfl dX1_takeEntry_30 ?_
  refine lv_iload_n hx hb dX1_takeEntry_33 rfl (lv_at hl 0 rfl) ?_
  refine lv_dup2_11 hx hb dX1_takeEntry_34 rfl rfl ?_
  obtain ⟨hiv35, v35, ev35, hf⟩ := ard_e hf
  refine rw_ald hx hb hK hP 3 0 rfl rfl hiv35 ev35 dX1_takeEntry_35 ?_
  refine lv_iconst (v := 1) hx hb dX1_takeEntry_36 (by decide) ?_
  obtain ⟨v37, ev37, hf⟩ := slet_e hf
  refine lv_isub hx hb dX1_takeEntry_37 ?_
  refine rw_nm ev37 ?_
  obtain ⟨hialk_38, alk_38, ealk_38, hf⟩ := awr_e hf
  refine rw_ast (ws' := (wX1 cI a0 a1 a2 a3 a4 a5 a6 akd asz_28 alk_38 ahm atg_18 avl)) hx hb hK hP hD hS 3 0 rfl rfl hialk_38 ealk_38 rfl dX1_takeEntry_38 (fun H locs hP hD hS => ?_)
  refine lv_iload_n hx hb dX1_takeEntry_39 rfl (lv_at hl 0 rfl) ?_
  cases hf
  exact retI hx hb hr hlocks hP hS dX1_takeEntry_40
theorem gX1_dropEntry_56 : GoodIn wsX1_dropEntry (wsV RX1 56 RX1 yX1_takeEntry wsX1_takeEntry) := gIn (memV q_138 q_139 q_348 q_3 q_140)
set_option maxHeartbeats 4000000 in
set_option maxRecDepth 100000 in
theorem cX1_dropEntry_met (l : Launch) (dC : Nat → ClassId) (dI : Nat → Nat → Nat) (cI : ClassId) (a0 a1 a2 a3 a4 a5 a6 : Nat) (akd : Nat → Int32) (asz : Nat → Int32) (alk : Nat → Int32) (ahm : Nat → Int32) (atg : Nat → Int32) (avl : Nat → Int32) (x1 : Int32) (x2 : Int32) (akd_o : Nat → Int32) (asz_o : Nat → Int32) (alk_o : Nat → Int32) (atg_o : Nat → Int32) (hf : fX1_dropEntry x1 x2 akd asz alk atg = some (akd_o, asz_o, alk_o, atg_o)) : Met l yX1_dropEntry wsX1_dropEntry ({ frames := 2, cells := 0, slots := 0, locals := 45 } : Room) (pcW [.ref a0, .int x1, .int x2] (dC, dI) vwCl [(cI, .int)] (wX1 cI a0 a1 a2 a3 a4 a5 a6 akd asz alk ahm atg avl)) (qV (va_P (dC, dI) vwCl (wX1 cI a0 a1 a2 a3 a4 a5 a6 akd_o asz_o alk_o ahm atg_o avl)) (inA [a0, a1, a2, a3, a4, a5, a6])) 0 0 (inA [a0, a1, a2, a3, a4, a5, a6]) := by
  refine Met.ofW (cc := cX1_dropEntry) (maxL := 4) (ret := none) (by decide) rfl ?_
  intro p e s m args below meth c s₁ B hml hv
  obtain ⟨rfl, hP, hK, hD0⟩ := hv
  have hx := B.exec
  have hb := B.bytes
  have hr := B.returns
  have hts := atoms_spec (ws := wsX1_dropEntry) B.pre
  have hown : s.vm.findClass RX1 = some m.cls := findClass_of_methodNamed B.named
  have hlocks := B.notSynchronized
  have hD := my_self (as := [a0, a1, a2, a3, a4, a5, a6]) hD0 rfl
  have hS : va_S (inA [a0, a1, a2, a3, a4, a5, a6]) s.heap s.heap [] := va_S.rf
  have hl := lv_entry ([.ref a0, .int x1, .int x2]) (n := 4) (Nat.le_of_ble_eq_true rfl)
  rw [lg_entry_eq]
  generalize (lg_sl ([.ref a0, .int x1, .int x2]) ++ List.replicate (4 - (lg_sl ([.ref a0, .int x1, .int x2])).length) Slot.unset).toArray = ls at hl ⊢
  have hl : lv_has ls 4 [(0, .ref a0), (1, .int x1), (2, .int x2)] := hl
  unfold fX1_dropEntry at hf
  refine lv_aload_n hx hb dX1_dropEntry_0 rfl (lv_at hl 0 rfl) ?_
  refine lv_iload_n hx hb dX1_dropEntry_1 rfl (lv_at hl 1 rfl) ?_
  refine lv_iload_n hx hb dX1_dropEntry_2 rfl (lv_at hl 2 rfl) ?_
  obtain ⟨r3, asz_3, alk_3, atg_3, hc3, hf⟩ := bn4_e hf
  refine callWi (wc := (wX1 cI a0 a1 a2 a3 a4 a5 a6 akd asz alk ahm atg avl)) (w1 := (wX1 cI a0 a1 a2 a3 a4 a5 a6 akd asz_3 alk_3 ahm atg_3 avl)) (ws' := (wX1 cI a0 a1 a2 a3 a4 a5 a6 akd asz_3 alk_3 ahm atg_3 avl)) (va_runV (As := [.int x1, .int x2]) (rest := []) ⟨hx, hb, hml, hown, hts⟩ (cX1_takeEntry_met l dC dI cI a0 a1 a2 a3 a4 a5 a6 akd asz alk ahm atg avl x1 x2 r3 asz_3 alk_3 atg_3 hc3) (cwV 2 hts gX1_dropEntry_56 rfl rfl rfl (by decide +kernel) ⟨Nat.le_of_ble_eq_true rfl, Nat.le_of_ble_eq_true rfl⟩) (preWV (ci := 1) (q0 := 0) hK (hP.sub (ws' := (wX1 cI a0 a1 a2 a3 a4 a5 a6 akd asz alk ahm atg avl)) [0, 1, 2, 3, 4, 5, 6] rfl) (hD.sub (ws' := (wX1 cI a0 a1 a2 a3 a4 a5 a6 akd asz alk ahm atg avl)) [0, 1, 2, 3, 4, 5, 6] (by decide) rfl) rfl rfl) rfl rfl hl.1 rfl (lv_room (Nat.le_of_ble_eq_true rfl)) dX1_dropEntry_3 ⟨Nat.le_of_ble_eq_true rfl, Nat.le_of_ble_eq_true rfl⟩) hS hP hD [0, 1, 2, 3, 4, 5, 6] rfl rfl rfl rfl rfl (fun H locs hP hD hS => ?_)
  refine lv_istore_n (lv' := [(3, .int r3), (0, .ref a0), (1, .int x1), (2, .int x2)]) hx hb dX1_dropEntry_6 rfl hl (by decide) rfl (fun ls hl => ?_)
  refine lv_aload_n hx hb dX1_dropEntry_7 rfl (lv_at hl 1 rfl) ?_
  refine va_get (D := (dC, dI)) (ci := 1) (v := .ref a3) (C := RX1) (T := TX1) (N := 6) hx hb hts (fun w h => mc (inX1 w h)) hown hK hP 0 rfl rfl 2 (by decide) (hts _ (mc q_29)) (fun _ h9 => h9) rfl dX1_dropEntry_8 ?_
  refine lv_iload_n hx hb dX1_dropEntry_11 rfl (lv_at hl 0 rfl) ?_
  obtain ⟨hiv12, v12, ev12, hf⟩ := ard_e hf
  refine rw_ald hx hb hK hP 3 0 rfl rfl hiv12 ev12 dX1_dropEntry_12 ?_
  refine lv_if_ne (tgt := 30) hx hb dX1_dropEntry_13 (by decide) (fun c13 => ?_) (fun c13 => ?_)
  · have hf := it_f c13 hf
    cases hf
    exact retV hx hb hr hlocks hP hS dX1_dropEntry_30
  · have hf := it_t c13 hf
    refine lv_aload_n hx hb dX1_dropEntry_16 rfl (lv_at hl 1 rfl) ?_
    refine va_get (D := (dC, dI)) (ci := 1) (v := .ref a1) (C := RX1) (T := TX1) (N := 6) hx hb hts (fun w h => mc (inX1 w h)) hown hK hP 0 rfl rfl 0 (by decide) (hts _ (mc q_27)) (fun _ h9 => h9) rfl dX1_dropEntry_17 ?_
    refine lv_iload_n hx hb dX1_dropEntry_20 rfl (lv_at hl 0 rfl) ?_
    refine lv_iconst (v := 0) hx hb dX1_dropEntry_21 (by decide) ?_
    obtain ⟨hiakd_22, akd_22, eakd_22, hf⟩ := awr_e hf
    refine rw_ast (ws' := (wX1 cI a0 a1 a2 a3 a4 a5 a6 akd_22 asz_3 alk_3 ahm atg_3 avl)) hx hb hK hP hD hS 1 0 rfl rfl hiakd_22 eakd_22 rfl dX1_dropEntry_22 (fun H locs hP hD hS => ?_)
    refine lv_aload_n hx hb dX1_dropEntry_23 rfl (lv_at hl 1 rfl) ?_
    refine va_get (D := (dC, dI)) (ci := 1) (v := .ref a2) (C := RX1) (T := TX1) (N := 6) hx hb hts (fun w h => mc (inX1 w h)) hown hK hP 0 rfl rfl 1 (by decide) (hts _ (mc q_28)) (fun _ h9 => h9) rfl dX1_dropEntry_24 ?_
    refine lv_iload_n hx hb dX1_dropEntry_27 rfl (lv_at hl 0 rfl) ?_
    refine lv_iconst (v := 0) hx hb dX1_dropEntry_28 (by decide) ?_
    obtain ⟨hiasz_29, asz_29, easz_29, hf⟩ := awr_e hf
    refine rw_ast (ws' := (wX1 cI a0 a1 a2 a3 a4 a5 a6 akd_22 asz_29 alk_3 ahm atg_3 avl)) hx hb hK hP hD hS 2 0 rfl rfl hiasz_29 easz_29 rfl dX1_dropEntry_29 (fun H locs hP hD hS => ?_)
    cases hf
    exact retV hx hb hr hlocks hP hS dX1_dropEntry_30
theorem gX1_moveEntry_56 : GoodIn wsX1_moveEntry (wsV RX1 56 RX1 yX1_takeEntry wsX1_takeEntry) := gIn (memV q_138 q_139 q_348 q_3 q_140)
theorem gX1_moveEntry_52 : GoodIn wsX1_moveEntry (wsV RX1 52 RX1 yX1_addEntry wsX1_addEntry) := gIn (memV q_129 q_130 q_131 q_3 q_132)
set_option maxHeartbeats 4000000 in
set_option maxRecDepth 100000 in
theorem cX1_moveEntry_met (l : Launch) (dC : Nat → ClassId) (dI : Nat → Nat → Nat) (cI : ClassId) (a0 a1 a2 a3 a4 a5 a6 : Nat) (akd : Nat → Int32) (asz : Nat → Int32) (alk : Nat → Int32) (ahm : Nat → Int32) (atg : Nat → Int32) (avl : Nat → Int32) (x1 : Int32) (x2 : Int32) (x3 : Int32) (x4 : Int32) (asz_o : Nat → Int32) (alk_o : Nat → Int32) (ahm_o : Nat → Int32) (atg_o : Nat → Int32) (hf : fX1_moveEntry x1 x2 x3 x4 asz alk ahm atg = some (asz_o, alk_o, ahm_o, atg_o)) : Met l yX1_moveEntry wsX1_moveEntry ({ frames := 2, cells := 0, slots := 0, locals := 45 } : Room) (pcW [.ref a0, .int x1, .int x2, .int x3, .int x4] (dC, dI) vwCl [(cI, .int)] (wX1 cI a0 a1 a2 a3 a4 a5 a6 akd asz alk ahm atg avl)) (qV (va_P (dC, dI) vwCl (wX1 cI a0 a1 a2 a3 a4 a5 a6 akd asz_o alk_o ahm_o atg_o avl)) (inA [a0, a1, a2, a3, a4, a5, a6])) 0 0 (inA [a0, a1, a2, a3, a4, a5, a6]) := by
  refine Met.ofW (cc := cX1_moveEntry) (maxL := 6) (ret := none) (by decide) rfl ?_
  intro p e s m args below meth c s₁ B hml hv
  obtain ⟨rfl, hP, hK, hD0⟩ := hv
  have hx := B.exec
  have hb := B.bytes
  have hr := B.returns
  have hts := atoms_spec (ws := wsX1_moveEntry) B.pre
  have hown : s.vm.findClass RX1 = some m.cls := findClass_of_methodNamed B.named
  have hlocks := B.notSynchronized
  have hD := my_self (as := [a0, a1, a2, a3, a4, a5, a6]) hD0 rfl
  have hS : va_S (inA [a0, a1, a2, a3, a4, a5, a6]) s.heap s.heap [] := va_S.rf
  have hl := lv_entry ([.ref a0, .int x1, .int x2, .int x3, .int x4]) (n := 6) (Nat.le_of_ble_eq_true rfl)
  rw [lg_entry_eq]
  generalize (lg_sl ([.ref a0, .int x1, .int x2, .int x3, .int x4]) ++ List.replicate (6 - (lg_sl ([.ref a0, .int x1, .int x2, .int x3, .int x4])).length) Slot.unset).toArray = ls at hl ⊢
  have hl : lv_has ls 6 [(0, .ref a0), (1, .int x1), (2, .int x2), (3, .int x3), (4, .int x4)] := hl
  unfold fX1_moveEntry at hf
  refine lv_aload_n hx hb dX1_moveEntry_0 rfl (lv_at hl 0 rfl) ?_
  refine lv_iload_n hx hb dX1_moveEntry_1 rfl (lv_at hl 1 rfl) ?_
  refine lv_iload_n hx hb dX1_moveEntry_2 rfl (lv_at hl 2 rfl) ?_
  obtain ⟨r3, asz_3, alk_3, atg_3, hc3, hf⟩ := bn4_e hf
  refine callWi (wc := (wX1 cI a0 a1 a2 a3 a4 a5 a6 akd asz alk ahm atg avl)) (w1 := (wX1 cI a0 a1 a2 a3 a4 a5 a6 akd asz_3 alk_3 ahm atg_3 avl)) (ws' := (wX1 cI a0 a1 a2 a3 a4 a5 a6 akd asz_3 alk_3 ahm atg_3 avl)) (va_runV (As := [.int x1, .int x2]) (rest := []) ⟨hx, hb, hml, hown, hts⟩ (cX1_takeEntry_met l dC dI cI a0 a1 a2 a3 a4 a5 a6 akd asz alk ahm atg avl x1 x2 r3 asz_3 alk_3 atg_3 hc3) (cwV 2 hts gX1_moveEntry_56 rfl rfl rfl (by decide +kernel) ⟨Nat.le_of_ble_eq_true rfl, Nat.le_of_ble_eq_true rfl⟩) (preWV (ci := 1) (q0 := 0) hK (hP.sub (ws' := (wX1 cI a0 a1 a2 a3 a4 a5 a6 akd asz alk ahm atg avl)) [0, 1, 2, 3, 4, 5, 6] rfl) (hD.sub (ws' := (wX1 cI a0 a1 a2 a3 a4 a5 a6 akd asz alk ahm atg avl)) [0, 1, 2, 3, 4, 5, 6] (by decide) rfl) rfl rfl) rfl rfl hl.1 rfl (lv_room (Nat.le_of_ble_eq_true rfl)) dX1_moveEntry_3 ⟨Nat.le_of_ble_eq_true rfl, Nat.le_of_ble_eq_true rfl⟩) hS hP hD [0, 1, 2, 3, 4, 5, 6] rfl rfl rfl rfl rfl (fun H locs hP hD hS => ?_)
  refine lv_istore (lv' := [(5, .int r3), (0, .ref a0), (1, .int x1), (2, .int x2), (3, .int x3), (4, .int x4)]) hx hb dX1_moveEntry_6 hl (by decide) rfl (fun ls hl => ?_)
  refine lv_aload_n hx hb dX1_moveEntry_8 rfl (lv_at hl 1 rfl) ?_
  refine lv_iload_n hx hb dX1_moveEntry_9 rfl (lv_at hl 4 rfl) ?_
  refine lv_iload hx hb dX1_moveEntry_10 (lv_at hl 5 rfl) ?_
  refine lv_iload hx hb dX1_moveEntry_12 (lv_at hl 0 rfl) ?_
  obtain ⟨asz_14, alk_14, ahm_14, atg_14, hc14, hf⟩ := bn4_e hf
  refine callWv (wc := (wX1 cI a0 a1 a2 a3 a4 a5 a6 akd asz_3 alk_3 ahm atg_3 avl)) (w1 := (wX1 cI a0 a1 a2 a3 a4 a5 a6 akd asz_14 alk_14 ahm_14 atg_14 avl)) (ws' := (wX1 cI a0 a1 a2 a3 a4 a5 a6 akd asz_14 alk_14 ahm_14 atg_14 avl)) (va_runV (As := [.int x3, .int x4, .int r3]) (rest := []) ⟨hx, hb, hml, hown, hts⟩ (cX1_addEntry_met l dC dI cI a0 a1 a2 a3 a4 a5 a6 akd asz_3 alk_3 ahm atg_3 avl x3 x4 r3 asz_14 alk_14 ahm_14 atg_14 hc14) (cwV 3 hts gX1_moveEntry_52 rfl rfl rfl (by decide +kernel) ⟨Nat.le_of_ble_eq_true rfl, Nat.le_of_ble_eq_true rfl⟩) (preWV (ci := 1) (q0 := 0) hK (hP.sub (ws' := (wX1 cI a0 a1 a2 a3 a4 a5 a6 akd asz_3 alk_3 ahm atg_3 avl)) [0, 1, 2, 3, 4, 5, 6] rfl) (hD.sub (ws' := (wX1 cI a0 a1 a2 a3 a4 a5 a6 akd asz_3 alk_3 ahm atg_3 avl)) [0, 1, 2, 3, 4, 5, 6] (by decide) rfl) rfl rfl) rfl rfl hl.1 rfl (lv_room (Nat.le_of_ble_eq_true rfl)) dX1_moveEntry_14 ⟨Nat.le_of_ble_eq_true rfl, Nat.le_of_ble_eq_true rfl⟩) hS hP hD [0, 1, 2, 3, 4, 5, 6] rfl rfl rfl rfl rfl (fun H locs hP hD hS => ?_)
  cases hf
  exact retV hx hb hr hlocks hP hS dX1_moveEntry_17
set_option maxHeartbeats 4000000 in
set_option maxRecDepth 100000 in
theorem cX1_setInt_met (l : Launch) (dC : Nat → ClassId) (dI : Nat → Nat → Nat) (cI : ClassId) (a0 a1 a2 a3 a4 a5 a6 : Nat) (akd : Nat → Int32) (asz : Nat → Int32) (alk : Nat → Int32) (ahm : Nat → Int32) (atg : Nat → Int32) (avl : Nat → Int32) (x1 : Int32) (x2 : Int32) (x3 : Int32) (asz_o : Nat → Int32) (avl_o : Nat → Int32) (hf : fX1_setInt x1 x2 x3 asz avl = some (asz_o, avl_o)) : Met l yX1_setInt wsX1_setInt ({ frames := 1, cells := 0, slots := 0, locals := 48 } : Room) (pcW [.ref a0, .int x1, .int x2, .int x3] (dC, dI) vwCl [(cI, .int)] (wX1 cI a0 a1 a2 a3 a4 a5 a6 akd asz alk ahm atg avl)) (qV (va_P (dC, dI) vwCl (wX1 cI a0 a1 a2 a3 a4 a5 a6 akd asz_o alk ahm atg avl_o)) (inA [a0, a1, a2, a3, a4, a5, a6])) 0 0 (inA [a0, a1, a2, a3, a4, a5, a6]) := by
  refine Met.ofW (cc := cX1_setInt) (maxL := 4) (ret := none) (by decide) rfl ?_
  intro p e s m args below meth c s₁ B hml hv
  obtain ⟨rfl, hP, hK, hD0⟩ := hv
  have hx := B.exec
  have hb := B.bytes
  have hr := B.returns
  have hts := atoms_spec (ws := wsX1_setInt) B.pre
  have hown : s.vm.findClass RX1 = some m.cls := findClass_of_methodNamed B.named
  have hlocks := B.notSynchronized
  have hD := my_self (as := [a0, a1, a2, a3, a4, a5, a6]) hD0 rfl
  have hS : va_S (inA [a0, a1, a2, a3, a4, a5, a6]) s.heap s.heap [] := va_S.rf
  have hl := lv_entry ([.ref a0, .int x1, .int x2, .int x3]) (n := 4) (Nat.le_of_ble_eq_true rfl)
  rw [lg_entry_eq]
  generalize (lg_sl ([.ref a0, .int x1, .int x2, .int x3]) ++ List.replicate (4 - (lg_sl ([.ref a0, .int x1, .int x2, .int x3])).length) Slot.unset).toArray = ls at hl ⊢
  have hl : lv_has ls 4 [(0, .ref a0), (1, .int x1), (2, .int x2), (3, .int x3)] := hl
  unfold fX1_setInt at hf
  refine lv_aload_n hx hb dX1_setInt_0 rfl (lv_at hl 0 rfl) ?_
  refine va_get (D := (dC, dI)) (ci := 1) (v := .ref a6) (C := RX1) (T := TX1) (N := 6) hx hb hts (fun w h => mc (inX1 w h)) hown hK hP 0 rfl rfl 5 (by decide) (hts _ (mc q_32)) (fun _ h9 => h9) rfl dX1_setInt_1 ?_
  refine lv_iload_n hx hb dX1_setInt_4 rfl (lv_at hl 1 rfl) ?_
  refine lv_bipush (v := 8) hx hb dX1_setInt_5 (by decide) ?_
  obtain ⟨v7, ev7, hf⟩ := slet_e hf
  refine lv_imul hx hb dX1_setInt_7 ?_
  refine rw_nm ev7 ?_
  refine lv_iload_n hx hb dX1_setInt_8 rfl (lv_at hl 2 rfl) ?_
  obtain ⟨v9, ev9, hf⟩ := slet_e hf
  refine lv_iadd hx hb dX1_setInt_9 ?_
  refine rw_nm ev9 ?_
  refine lv_iload_n hx hb dX1_setInt_10 rfl (lv_at hl 3 rfl) ?_
  obtain ⟨hiavl_11, avl_11, eavl_11, hf⟩ := awr_e hf
  refine rw_ast (ws' := (wX1 cI a0 a1 a2 a3 a4 a5 a6 akd asz alk ahm atg avl_11)) hx hb hK hP hD hS 6 0 rfl rfl hiavl_11 eavl_11 rfl dX1_setInt_11 (fun H locs hP hD hS => ?_)
  refine lv_aload_n hx hb dX1_setInt_12 rfl (lv_at hl 0 rfl) ?_
  refine va_get (D := (dC, dI)) (ci := 1) (v := .ref a2) (C := RX1) (T := TX1) (N := 6) hx hb hts (fun w h => mc (inX1 w h)) hown hK hP 0 rfl rfl 1 (by decide) (hts _ (mc q_28)) (fun _ h9 => h9) rfl dX1_setInt_13 ?_
  refine lv_iload_n hx hb dX1_setInt_16 rfl (lv_at hl 1 rfl) ?_
  refine lv_aload_n hx hb dX1_setInt_17 rfl (lv_at hl 0 rfl) ?_
  refine va_get (D := (dC, dI)) (ci := 1) (v := .ref a2) (C := RX1) (T := TX1) (N := 6) hx hb hts (fun w h => mc (inX1 w h)) hown hK hP 0 rfl rfl 1 (by decide) (hts _ (mc q_28)) (fun _ h9 => h9) rfl dX1_setInt_18 ?_
  refine lv_iload_n hx hb dX1_setInt_21 rfl (lv_at hl 1 rfl) ?_
  obtain ⟨hiv22, v22, ev22, hf⟩ := ard_e hf
  refine rw_ald hx hb hK hP 2 0 rfl rfl hiv22 ev22 dX1_setInt_22 ?_
  refine lv_iload_n hx hb dX1_setInt_23 rfl (lv_at hl 2 rfl) ?_
  refine lv_iconst (v := 1) hx hb dX1_setInt_24 (by decide) ?_
  obtain ⟨v25, ev25, hf⟩ := slet_e hf
  refine lv_iadd hx hb dX1_setInt_25 ?_
  refine rw_nm ev25 ?_
  obtain ⟨v26, ev26, hf⟩ := slet_e hf
  refine va_mmax hx hb (hml.trans hl.1.symm) hown (hts _ (mc q_150)) (hts _ (mc q_19)) (hts _ (mc q_2)) (hts _ (mc q_20)) (Nat.le_of_ble_eq_true rfl) (Nat.le_of_ble_eq_true rfl) (Nat.le_of_ble_eq_true rfl) (Nat.le_of_ble_eq_true rfl) dX1_setInt_26 ?_
  refine rw_nm ev26 ?_
  obtain ⟨hiasz_29, asz_29, easz_29, hf⟩ := awr_e hf
  refine rw_ast (ws' := (wX1 cI a0 a1 a2 a3 a4 a5 a6 akd asz_29 alk ahm atg avl_11)) hx hb hK hP hD hS 2 0 rfl rfl hiasz_29 easz_29 rfl dX1_setInt_29 (fun H locs hP hD hS => ?_)
  cases hf
  exact retV hx hb hr hlocks hP hS dX1_setInt_30
set_option maxHeartbeats 4000000 in
set_option maxRecDepth 100000 in
theorem cX1_setSize_met (l : Launch) (dC : Nat → ClassId) (dI : Nat → Nat → Nat) (cI : ClassId) (a0 a1 a2 a3 a4 a5 a6 : Nat) (akd : Nat → Int32) (asz : Nat → Int32) (alk : Nat → Int32) (ahm : Nat → Int32) (atg : Nat → Int32) (avl : Nat → Int32) (x1 : Int32) (x2 : Int32) (asz_o : Nat → Int32) (hf : fX1_setSize x1 x2 asz = some asz_o) : Met l yX1_setSize wsX1_setSize ({ frames := 0, cells := 0, slots := 0, locals := 0 } : Room) (pcW [.ref a0, .int x1, .int x2] (dC, dI) vwCl [(cI, .int)] (wX1 cI a0 a1 a2 a3 a4 a5 a6 akd asz alk ahm atg avl)) (qV (va_P (dC, dI) vwCl (wX1 cI a0 a1 a2 a3 a4 a5 a6 akd asz_o alk ahm atg avl)) (inA [a0, a1, a2, a3, a4, a5, a6])) 0 0 (inA [a0, a1, a2, a3, a4, a5, a6]) := by
  refine Met.ofW (cc := cX1_setSize) (maxL := 3) (ret := none) (by decide) rfl ?_
  intro p e s m args below meth c s₁ B hml hv
  obtain ⟨rfl, hP, hK, hD0⟩ := hv
  have hx := B.exec
  have hb := B.bytes
  have hr := B.returns
  have hts := atoms_spec (ws := wsX1_setSize) B.pre
  have hown : s.vm.findClass RX1 = some m.cls := findClass_of_methodNamed B.named
  have hlocks := B.notSynchronized
  have hD := my_self (as := [a0, a1, a2, a3, a4, a5, a6]) hD0 rfl
  have hS : va_S (inA [a0, a1, a2, a3, a4, a5, a6]) s.heap s.heap [] := va_S.rf
  have hl := lv_entry ([.ref a0, .int x1, .int x2]) (n := 3) (Nat.le_of_ble_eq_true rfl)
  rw [lg_entry_eq]
  generalize (lg_sl ([.ref a0, .int x1, .int x2]) ++ List.replicate (3 - (lg_sl ([.ref a0, .int x1, .int x2])).length) Slot.unset).toArray = ls at hl ⊢
  have hl : lv_has ls 3 [(0, .ref a0), (1, .int x1), (2, .int x2)] := hl
  unfold fX1_setSize at hf
  refine lv_aload_n hx hb dX1_setSize_0 rfl (lv_at hl 0 rfl) ?_
  refine va_get (D := (dC, dI)) (ci := 1) (v := .ref a2) (C := RX1) (T := TX1) (N := 6) hx hb hts (fun w h => mc (inX1 w h)) hown hK hP 0 rfl rfl 1 (by decide) (hts _ (mc q_28)) (fun _ h9 => h9) rfl dX1_setSize_1 ?_
  refine lv_iload_n hx hb dX1_setSize_4 rfl (lv_at hl 1 rfl) ?_
  refine lv_iload_n hx hb dX1_setSize_5 rfl (lv_at hl 2 rfl) ?_
  obtain ⟨hiasz_6, asz_6, easz_6, hf⟩ := awr_e hf
  refine rw_ast (ws' := (wX1 cI a0 a1 a2 a3 a4 a5 a6 akd asz_6 alk ahm atg avl)) hx hb hK hP hD hS 2 0 rfl rfl hiasz_6 easz_6 rfl dX1_setSize_6 (fun H locs hP hD hS => ?_)
  cases hf
  exact retV hx hb hr hlocks hP hS dX1_setSize_7
theorem gX0_redo_19 : GoodIn wsX0_redo (wsV RX0 19 RX1 yX1_addNode wsX1_addNode) := gIn (memV q_124 q_125 q_126 q_3 q_127)
theorem gX0_redo_25 : GoodIn wsX0_redo (wsV RX0 25 RX1 yX1_addEntry wsX1_addEntry) := gIn (memV q_133 q_130 q_131 q_3 q_132)
theorem gX0_redo_28 : GoodIn wsX0_redo (wsV RX0 28 RX1 yX1_dropEntry wsX1_dropEntry) := gIn (memV q_134 q_135 q_136 q_3 q_137)
theorem gX0_redo_32 : GoodIn wsX0_redo (wsV RX0 32 RX1 yX1_moveEntry wsX1_moveEntry) := gIn (memV q_142 q_143 q_144 q_3 q_145)
theorem gX0_redo_36 : GoodIn wsX0_redo (wsV RX0 36 RX1 yX1_setInt wsX1_setInt) := gIn (memV q_146 q_147 q_148 q_3 q_149)
theorem gX0_redo_39 : GoodIn wsX0_redo (wsV RX0 39 RX1 yX1_setSize wsX1_setSize) := gIn (memV q_151 q_152 q_153 q_3 q_154)
set_option maxHeartbeats 4000000 in
set_option maxRecDepth 100000 in
theorem cX0_redo_met (l : Launch) (dC : Nat → ClassId) (dI : Nat → Nat → Nat) (cI : ClassId) (g0 g1 a0 a1 a2 a3 a4 a5 a6 : Nat) (gln : Int32) (grw : Nat → Int32) (akd : Nat → Int32) (asz : Nat → Int32) (alk : Nat → Int32) (ahm : Nat → Int32) (atg : Nat → Int32) (avl : Nat → Int32) (x1 : Int32) (akd_o : Nat → Int32) (asz_o : Nat → Int32) (alk_o : Nat → Int32) (ahm_o : Nat → Int32) (atg_o : Nat → Int32) (avl_o : Nat → Int32) (hf : fX0_redo x1 gln grw akd asz alk ahm atg avl = some (akd_o, asz_o, alk_o, ahm_o, atg_o, avl_o)) : Met l yX0_redo wsX0_redo ({ frames := 3, cells := 0, slots := 0, locals := 71 } : Room) (pcW [.ref g0, .int x1, .ref a0] (dC, dI) vwCl [(cI, .int)] (wX0X1a cI g0 g1 a0 a1 a2 a3 a4 a5 a6 gln grw akd asz alk ahm atg avl)) (qV (va_P (dC, dI) vwCl (wX0X1a cI g0 g1 a0 a1 a2 a3 a4 a5 a6 gln grw akd_o asz_o alk_o ahm_o atg_o avl_o)) (inA [g0, g1, a0, a1, a2, a3, a4, a5, a6])) 0 0 (inA [g0, g1, a0, a1, a2, a3, a4, a5, a6]) := by
  refine Met.ofW (cc := cX0_redo) (maxL := 8) (ret := none) (by decide) rfl ?_
  intro p e s m args below meth c s₁ B hml hv
  obtain ⟨rfl, hP, hK, hD0⟩ := hv
  have hx := B.exec
  have hb := B.bytes
  have hr := B.returns
  have hts := atoms_spec (ws := wsX0_redo) B.pre
  have hown : s.vm.findClass RX0 = some m.cls := findClass_of_methodNamed B.named
  have hlocks := B.notSynchronized
  have hD := my_self (as := [g0, g1, a0, a1, a2, a3, a4, a5, a6]) hD0 rfl
  have hS : va_S (inA [g0, g1, a0, a1, a2, a3, a4, a5, a6]) s.heap s.heap [] := va_S.rf
  have hl := lv_entry ([.ref g0, .int x1, .ref a0]) (n := 8) (Nat.le_of_ble_eq_true rfl)
  rw [lg_entry_eq]
  generalize (lg_sl ([.ref g0, .int x1, .ref a0]) ++ List.replicate (8 - (lg_sl ([.ref g0, .int x1, .ref a0])).length) Slot.unset).toArray = ls at hl ⊢
  have hl : lv_has ls 8 [(0, .ref g0), (1, .int x1), (2, .ref a0)] := hl
  unfold fX0_redo at hf
  refine lv_iload_n hx hb dX0_redo_0 rfl (lv_at hl 1 rfl) ?_
  refine lv_if_lt (tgt := 12) hx hb dX0_redo_1 (by decide) (fun c1 => ?_) (fun c1 => ?_)
  · have hf := it_t c1 hf
    cases hf
    exact retV hx hb hr hlocks hP hS dX0_redo_12
  · have hf := it_f c1 hf
    refine lv_iload_n hx hb dX0_redo_4 rfl (lv_at hl 1 rfl) ?_
    refine lv_aload_n hx hb dX0_redo_5 rfl (lv_at hl 0 rfl) ?_
    refine va_get (D := (dC, dI)) (ci := 0) (v := .int gln) (C := RX0) (T := TX0) (N := 2) hx hb hts (fun w h => mc (inX0 w h)) hown hK hP 0 rfl rfl 1 (by decide) (hts _ (mc q_41)) (fun _ h9 => h9) rfl dX0_redo_6 ?_
    refine lv_icmp_lt (tgt := 13) hx hb dX0_redo_9 (by decide) (fun c9 => ?_) (fun c9 => ?_)
    · have hf := it_t c9 hf
      refine lv_iload_n hx hb dX0_redo_13 rfl (lv_at hl 1 rfl) ?_
      refine lv_iconst (v := 5) hx hb dX0_redo_14 (by decide) ?_
      obtain ⟨v15, ev15, hf⟩ := slet_e hf
      refine lv_imul hx hb dX0_redo_15 ?_
      refine rw_nm ev15 ?_
      refine lv_istore_n (lv' := [(3, .int v15), (0, .ref g0), (1, .int x1), (2, .ref a0)]) hx hb dX0_redo_16 rfl hl (by decide) rfl (fun ls hl => ?_)
      refine lv_aload_n hx hb dX0_redo_17 rfl (lv_at hl 1 rfl) ?_
      refine va_get (D := (dC, dI)) (ci := 0) (v := .ref g1) (C := RX0) (T := TX0) (N := 2) hx hb hts (fun w h => mc (inX0 w h)) hown hK hP 0 rfl rfl 0 (by decide) (hts _ (mc q_40)) (fun _ h9 => h9) rfl dX0_redo_18 ?_
      refine lv_iload_n hx hb dX0_redo_21 rfl (lv_at hl 0 rfl) ?_
      refine lv_iconst (v := 1) hx hb dX0_redo_22 (by decide) ?_
      obtain ⟨v23, ev23, hf⟩ := slet_e hf
      refine lv_iadd hx hb dX0_redo_23 ?_
      refine rw_nm ev23 ?_
      obtain ⟨hiv24, v24, ev24, hf⟩ := ard_e hf
      refine rw_ald hx hb hK hP 1 0 rfl rfl hiv24 ev24 dX0_redo_24 ?_
      refine lv_istore (lv' := [(4, .int v24), (3, .int v15), (0, .ref g0), (1, .int x1), (2, .ref a0)]) hx hb dX0_redo_25 hl (by decide) rfl (fun ls hl => ?_)
      refine lv_aload_n hx hb dX0_redo_27 rfl (lv_at hl 2 rfl) ?_
      refine va_get (D := (dC, dI)) (ci := 0) (v := .ref g1) (C := RX0) (T := TX0) (N := 2) hx hb hts (fun w h => mc (inX0 w h)) hown hK hP 0 rfl rfl 0 (by decide) (hts _ (mc q_40)) (fun _ h9 => h9) rfl dX0_redo_28 ?_
      refine lv_iload_n hx hb dX0_redo_31 rfl (lv_at hl 1 rfl) ?_
      refine lv_iconst (v := 2) hx hb dX0_redo_32 (by decide) ?_
      obtain ⟨v33, ev33, hf⟩ := slet_e hf
      refine lv_iadd hx hb dX0_redo_33 ?_
      refine rw_nm ev33 ?_
      obtain ⟨hiv34, v34, ev34, hf⟩ := ard_e hf
      refine rw_ald hx hb hK hP 1 0 rfl rfl hiv34 ev34 dX0_redo_34 ?_
      refine lv_istore (lv' := [(5, .int v34), (4, .int v24), (3, .int v15), (0, .ref g0), (1, .int x1), (2, .ref a0)]) hx hb dX0_redo_35 hl (by decide) rfl (fun ls hl => ?_)
      refine lv_aload_n hx hb dX0_redo_37 rfl (lv_at hl 3 rfl) ?_
      refine va_get (D := (dC, dI)) (ci := 0) (v := .ref g1) (C := RX0) (T := TX0) (N := 2) hx hb hts (fun w h => mc (inX0 w h)) hown hK hP 0 rfl rfl 0 (by decide) (hts _ (mc q_40)) (fun _ h9 => h9) rfl dX0_redo_38 ?_
      refine lv_iload_n hx hb dX0_redo_41 rfl (lv_at hl 2 rfl) ?_
      refine lv_iconst (v := 3) hx hb dX0_redo_42 (by decide) ?_
      obtain ⟨v43, ev43, hf⟩ := slet_e hf
      refine lv_iadd hx hb dX0_redo_43 ?_
      refine rw_nm ev43 ?_
      obtain ⟨hiv44, v44, ev44, hf⟩ := ard_e hf
      refine rw_ald hx hb hK hP 1 0 rfl rfl hiv44 ev44 dX0_redo_44 ?_
      refine lv_istore (lv' := [(6, .int v44), (5, .int v34), (4, .int v24), (3, .int v15), (0, .ref g0), (1, .int x1), (2, .ref a0)]) hx hb dX0_redo_45 hl (by decide) rfl (fun ls hl => ?_)
      refine lv_aload_n hx hb dX0_redo_47 rfl (lv_at hl 4 rfl) ?_
      refine va_get (D := (dC, dI)) (ci := 0) (v := .ref g1) (C := RX0) (T := TX0) (N := 2) hx hb hts (fun w h => mc (inX0 w h)) hown hK hP 0 rfl rfl 0 (by decide) (hts _ (mc q_40)) (fun _ h9 => h9) rfl dX0_redo_48 ?_
      refine lv_iload_n hx hb dX0_redo_51 rfl (lv_at hl 3 rfl) ?_
      refine lv_iconst (v := 4) hx hb dX0_redo_52 (by decide) ?_
      obtain ⟨v53, ev53, hf⟩ := slet_e hf
      refine lv_iadd hx hb dX0_redo_53 ?_
      refine rw_nm ev53 ?_
      obtain ⟨hiv54, v54, ev54, hf⟩ := ard_e hf
      refine rw_ald hx hb hK hP 1 0 rfl rfl hiv54 ev54 dX0_redo_54 ?_
      refine lv_istore (lv' := [(7, .int v54), (6, .int v44), (5, .int v34), (4, .int v24), (3, .int v15), (0, .ref g0), (1, .int x1), (2, .ref a0)]) hx hb dX0_redo_55 hl (by decide) rfl (fun ls hl => ?_)
      refine lv_aload_n hx hb dX0_redo_57 rfl (lv_at hl 5 rfl) ?_
      refine va_get (D := (dC, dI)) (ci := 0) (v := .ref g1) (C := RX0) (T := TX0) (N := 2) hx hb hts (fun w h => mc (inX0 w h)) hown hK hP 0 rfl rfl 0 (by decide) (hts _ (mc q_40)) (fun _ h9 => h9) rfl dX0_redo_58 ?_
      refine lv_iload_n hx hb dX0_redo_61 rfl (lv_at hl 4 rfl) ?_
      obtain ⟨hiv62, v62, ev62, hf⟩ := ard_e hf
      refine rw_ald hx hb hK hP 1 0 rfl rfl hiv62 ev62 dX0_redo_62 ?_
      by_cases c63_0 : v62 = 0
      · have hf := it_t c63_0 hf
        refine lv_tableIn (tgt := 96) hx hb dX0_redo_63 (by rw [c63_0]; decide) (by rw [c63_0]; decide) (off := 33) (by rw [c63_0]; decide) (by decide) ?_
        refine lv_aload_n hx hb dX0_redo_96 rfl (lv_at hl 7 rfl) ?_
        refine lv_iload hx hb dX0_redo_97 (lv_at hl 3 rfl) ?_
        refine lv_iload hx hb dX0_redo_99 (lv_at hl 2 rfl) ?_
        refine lv_iload hx hb dX0_redo_101 (lv_at hl 1 rfl) ?_
        obtain ⟨akd_103, asz_103, alk_103, ahm_103, atg_103, hc103, hf⟩ := bn5_e hf
        refine callWv (wc := (wX1 cI a0 a1 a2 a3 a4 a5 a6 akd asz alk ahm atg avl)) (w1 := (wX1 cI a0 a1 a2 a3 a4 a5 a6 akd_103 asz_103 alk_103 ahm_103 atg_103 avl)) (ws' := (wX0X1a cI g0 g1 a0 a1 a2 a3 a4 a5 a6 gln grw akd_103 asz_103 alk_103 ahm_103 atg_103 avl)) (va_runV (As := [.int v24, .int v34, .int v44]) (rest := []) ⟨hx, hb, hml, hown, hts⟩ (cX1_addNode_met l dC dI cI a0 a1 a2 a3 a4 a5 a6 akd asz alk ahm atg avl v24 v34 v44 akd_103 asz_103 alk_103 ahm_103 atg_103 hc103) (cwV 3 hts gX0_redo_19 rfl rfl rfl (by decide +kernel) ⟨Nat.le_of_ble_eq_true rfl, Nat.le_of_ble_eq_true rfl⟩) (preWV (ci := 1) (q0 := 0) hK (hP.sub (ws' := (wX1 cI a0 a1 a2 a3 a4 a5 a6 akd asz alk ahm atg avl)) [2, 3, 4, 5, 6, 7, 8] rfl) (hD.sub (ws' := (wX1 cI a0 a1 a2 a3 a4 a5 a6 akd asz alk ahm atg avl)) [2, 3, 4, 5, 6, 7, 8] (by decide) rfl) rfl rfl) rfl rfl hl.1 rfl (lv_room (Nat.le_of_ble_eq_true rfl)) dX0_redo_103 ⟨Nat.le_of_ble_eq_true rfl, Nat.le_of_ble_eq_true rfl⟩) hS hP hD [2, 3, 4, 5, 6, 7, 8] rfl rfl rfl rfl rfl (fun H locs hP hD hS => ?_)
        refine lv_goto (tgt := 169) hx hb dX0_redo_106 (by decide) ?_
        cases hf
        exact retV hx hb hr hlocks hP hS dX0_redo_169
      have hf := it_f c63_0 hf
      by_cases c63_1 : v62 = 1
      · have hf := it_t c63_1 hf
        refine lv_tableIn (tgt := 109) hx hb dX0_redo_63 (by rw [c63_1]; decide) (by rw [c63_1]; decide) (off := 46) (by rw [c63_1]; decide) (by decide) ?_
        refine lv_aload_n hx hb dX0_redo_109 rfl (lv_at hl 7 rfl) ?_
        refine lv_iload hx hb dX0_redo_110 (lv_at hl 3 rfl) ?_
        refine lv_iload hx hb dX0_redo_112 (lv_at hl 2 rfl) ?_
        refine lv_iload hx hb dX0_redo_114 (lv_at hl 1 rfl) ?_
        obtain ⟨asz_116, alk_116, ahm_116, atg_116, hc116, hf⟩ := bn4_e hf
        refine callWv (wc := (wX1 cI a0 a1 a2 a3 a4 a5 a6 akd asz alk ahm atg avl)) (w1 := (wX1 cI a0 a1 a2 a3 a4 a5 a6 akd asz_116 alk_116 ahm_116 atg_116 avl)) (ws' := (wX0X1a cI g0 g1 a0 a1 a2 a3 a4 a5 a6 gln grw akd asz_116 alk_116 ahm_116 atg_116 avl)) (va_runV (As := [.int v24, .int v34, .int v44]) (rest := []) ⟨hx, hb, hml, hown, hts⟩ (cX1_addEntry_met l dC dI cI a0 a1 a2 a3 a4 a5 a6 akd asz alk ahm atg avl v24 v34 v44 asz_116 alk_116 ahm_116 atg_116 hc116) (cwV 3 hts gX0_redo_25 rfl rfl rfl (by decide +kernel) ⟨Nat.le_of_ble_eq_true rfl, Nat.le_of_ble_eq_true rfl⟩) (preWV (ci := 1) (q0 := 0) hK (hP.sub (ws' := (wX1 cI a0 a1 a2 a3 a4 a5 a6 akd asz alk ahm atg avl)) [2, 3, 4, 5, 6, 7, 8] rfl) (hD.sub (ws' := (wX1 cI a0 a1 a2 a3 a4 a5 a6 akd asz alk ahm atg avl)) [2, 3, 4, 5, 6, 7, 8] (by decide) rfl) rfl rfl) rfl rfl hl.1 rfl (lv_room (Nat.le_of_ble_eq_true rfl)) dX0_redo_116 ⟨Nat.le_of_ble_eq_true rfl, Nat.le_of_ble_eq_true rfl⟩) hS hP hD [2, 3, 4, 5, 6, 7, 8] rfl rfl rfl rfl rfl (fun H locs hP hD hS => ?_)
        refine lv_goto (tgt := 169) hx hb dX0_redo_119 (by decide) ?_
        cases hf
        exact retV hx hb hr hlocks hP hS dX0_redo_169
      have hf := it_f c63_1 hf
      by_cases c63_2 : v62 = 2
      · have hf := it_t c63_2 hf
        refine lv_tableIn (tgt := 122) hx hb dX0_redo_63 (by rw [c63_2]; decide) (by rw [c63_2]; decide) (off := 59) (by rw [c63_2]; decide) (by decide) ?_
        refine lv_aload_n hx hb dX0_redo_122 rfl (lv_at hl 7 rfl) ?_
        refine lv_iload hx hb dX0_redo_123 (lv_at hl 3 rfl) ?_
        refine lv_iload hx hb dX0_redo_125 (lv_at hl 2 rfl) ?_
        obtain ⟨akd_127, asz_127, alk_127, atg_127, hc127, hf⟩ := bn4_e hf
        refine callWv (wc := (wX1 cI a0 a1 a2 a3 a4 a5 a6 akd asz alk ahm atg avl)) (w1 := (wX1 cI a0 a1 a2 a3 a4 a5 a6 akd_127 asz_127 alk_127 ahm atg_127 avl)) (ws' := (wX0X1a cI g0 g1 a0 a1 a2 a3 a4 a5 a6 gln grw akd_127 asz_127 alk_127 ahm atg_127 avl)) (va_runV (As := [.int v24, .int v34]) (rest := []) ⟨hx, hb, hml, hown, hts⟩ (cX1_dropEntry_met l dC dI cI a0 a1 a2 a3 a4 a5 a6 akd asz alk ahm atg avl v24 v34 akd_127 asz_127 alk_127 atg_127 hc127) (cwV 2 hts gX0_redo_28 rfl rfl rfl (by decide +kernel) ⟨Nat.le_of_ble_eq_true rfl, Nat.le_of_ble_eq_true rfl⟩) (preWV (ci := 1) (q0 := 0) hK (hP.sub (ws' := (wX1 cI a0 a1 a2 a3 a4 a5 a6 akd asz alk ahm atg avl)) [2, 3, 4, 5, 6, 7, 8] rfl) (hD.sub (ws' := (wX1 cI a0 a1 a2 a3 a4 a5 a6 akd asz alk ahm atg avl)) [2, 3, 4, 5, 6, 7, 8] (by decide) rfl) rfl rfl) rfl rfl hl.1 rfl (lv_room (Nat.le_of_ble_eq_true rfl)) dX0_redo_127 ⟨Nat.le_of_ble_eq_true rfl, Nat.le_of_ble_eq_true rfl⟩) hS hP hD [2, 3, 4, 5, 6, 7, 8] rfl rfl rfl rfl rfl (fun H locs hP hD hS => ?_)
        refine lv_goto (tgt := 169) hx hb dX0_redo_130 (by decide) ?_
        cases hf
        exact retV hx hb hr hlocks hP hS dX0_redo_169
      have hf := it_f c63_2 hf
      by_cases c63_3 : v62 = 3
      · have hf := it_t c63_3 hf
        refine lv_tableIn (tgt := 133) hx hb dX0_redo_63 (by rw [c63_3]; decide) (by rw [c63_3]; decide) (off := 70) (by rw [c63_3]; decide) (by decide) ?_
        refine lv_aload_n hx hb dX0_redo_133 rfl (lv_at hl 7 rfl) ?_
        refine lv_iload hx hb dX0_redo_134 (lv_at hl 3 rfl) ?_
        refine lv_iload hx hb dX0_redo_136 (lv_at hl 2 rfl) ?_
        refine lv_iload hx hb dX0_redo_138 (lv_at hl 1 rfl) ?_
        refine lv_iload hx hb dX0_redo_140 (lv_at hl 0 rfl) ?_
        obtain ⟨asz_142, alk_142, ahm_142, atg_142, hc142, hf⟩ := bn4_e hf
        refine callWv (wc := (wX1 cI a0 a1 a2 a3 a4 a5 a6 akd asz alk ahm atg avl)) (w1 := (wX1 cI a0 a1 a2 a3 a4 a5 a6 akd asz_142 alk_142 ahm_142 atg_142 avl)) (ws' := (wX0X1a cI g0 g1 a0 a1 a2 a3 a4 a5 a6 gln grw akd asz_142 alk_142 ahm_142 atg_142 avl)) (va_runV (As := [.int v24, .int v34, .int v44, .int v54]) (rest := []) ⟨hx, hb, hml, hown, hts⟩ (cX1_moveEntry_met l dC dI cI a0 a1 a2 a3 a4 a5 a6 akd asz alk ahm atg avl v24 v34 v44 v54 asz_142 alk_142 ahm_142 atg_142 hc142) (cwV 4 hts gX0_redo_32 rfl rfl rfl (by decide +kernel) ⟨Nat.le_of_ble_eq_true rfl, Nat.le_of_ble_eq_true rfl⟩) (preWV (ci := 1) (q0 := 0) hK (hP.sub (ws' := (wX1 cI a0 a1 a2 a3 a4 a5 a6 akd asz alk ahm atg avl)) [2, 3, 4, 5, 6, 7, 8] rfl) (hD.sub (ws' := (wX1 cI a0 a1 a2 a3 a4 a5 a6 akd asz alk ahm atg avl)) [2, 3, 4, 5, 6, 7, 8] (by decide) rfl) rfl rfl) rfl rfl hl.1 rfl (lv_room (Nat.le_of_ble_eq_true rfl)) dX0_redo_142 ⟨Nat.le_of_ble_eq_true rfl, Nat.le_of_ble_eq_true rfl⟩) hS hP hD [2, 3, 4, 5, 6, 7, 8] rfl rfl rfl rfl rfl (fun H locs hP hD hS => ?_)
        refine lv_goto (tgt := 169) hx hb dX0_redo_145 (by decide) ?_
        cases hf
        exact retV hx hb hr hlocks hP hS dX0_redo_169
      have hf := it_f c63_3 hf
      by_cases c63_4 : v62 = 4
      · have hf := it_t c63_4 hf
        refine lv_tableIn (tgt := 148) hx hb dX0_redo_63 (by rw [c63_4]; decide) (by rw [c63_4]; decide) (off := 85) (by rw [c63_4]; decide) (by decide) ?_
        refine lv_aload_n hx hb dX0_redo_148 rfl (lv_at hl 7 rfl) ?_
        refine lv_iload hx hb dX0_redo_149 (lv_at hl 3 rfl) ?_
        refine lv_iload hx hb dX0_redo_151 (lv_at hl 2 rfl) ?_
        refine lv_iload hx hb dX0_redo_153 (lv_at hl 1 rfl) ?_
        obtain ⟨asz_155, avl_155, hc155, hf⟩ := bn2_e hf
        refine callWv (wc := (wX1 cI a0 a1 a2 a3 a4 a5 a6 akd asz alk ahm atg avl)) (w1 := (wX1 cI a0 a1 a2 a3 a4 a5 a6 akd asz_155 alk ahm atg avl_155)) (ws' := (wX0X1a cI g0 g1 a0 a1 a2 a3 a4 a5 a6 gln grw akd asz_155 alk ahm atg avl_155)) (va_runV (As := [.int v24, .int v34, .int v44]) (rest := []) ⟨hx, hb, hml, hown, hts⟩ (cX1_setInt_met l dC dI cI a0 a1 a2 a3 a4 a5 a6 akd asz alk ahm atg avl v24 v34 v44 asz_155 avl_155 hc155) (cwV 3 hts gX0_redo_36 rfl rfl rfl (by decide +kernel) ⟨Nat.le_of_ble_eq_true rfl, Nat.le_of_ble_eq_true rfl⟩) (preWV (ci := 1) (q0 := 0) hK (hP.sub (ws' := (wX1 cI a0 a1 a2 a3 a4 a5 a6 akd asz alk ahm atg avl)) [2, 3, 4, 5, 6, 7, 8] rfl) (hD.sub (ws' := (wX1 cI a0 a1 a2 a3 a4 a5 a6 akd asz alk ahm atg avl)) [2, 3, 4, 5, 6, 7, 8] (by decide) rfl) rfl rfl) rfl rfl hl.1 rfl (lv_room (Nat.le_of_ble_eq_true rfl)) dX0_redo_155 ⟨Nat.le_of_ble_eq_true rfl, Nat.le_of_ble_eq_true rfl⟩) hS hP hD [2, 3, 4, 5, 6, 7, 8] rfl rfl rfl rfl rfl (fun H locs hP hD hS => ?_)
        refine lv_goto (tgt := 169) hx hb dX0_redo_158 (by decide) ?_
        cases hf
        exact retV hx hb hr hlocks hP hS dX0_redo_169
      have hf := it_f c63_4 hf
      have t0 := lv_neT (a := 0) c63_0 (by decide)
      have t1 := lv_neT (a := 1) c63_1 (by decide)
      have t2 := lv_neT (a := 2) c63_2 (by decide)
      have t3 := lv_neT (a := 3) c63_3 (by decide)
      have t4 := lv_neT (a := 4) c63_4 (by decide)
      refine lv_tableOut (tgt := 161) hx hb dX0_redo_63 (by omega) (by decide) ?_
      refine lv_aload_n hx hb dX0_redo_161 rfl (lv_at hl 7 rfl) ?_
      refine lv_iload hx hb dX0_redo_162 (lv_at hl 3 rfl) ?_
      refine lv_iload hx hb dX0_redo_164 (lv_at hl 2 rfl) ?_
      obtain ⟨asz_166, hc166, hf⟩ := bn1_e hf
      refine callWv (wc := (wX1 cI a0 a1 a2 a3 a4 a5 a6 akd asz alk ahm atg avl)) (w1 := (wX1 cI a0 a1 a2 a3 a4 a5 a6 akd asz_166 alk ahm atg avl)) (ws' := (wX0X1a cI g0 g1 a0 a1 a2 a3 a4 a5 a6 gln grw akd asz_166 alk ahm atg avl)) (va_runV (As := [.int v24, .int v34]) (rest := []) ⟨hx, hb, hml, hown, hts⟩ (cX1_setSize_met l dC dI cI a0 a1 a2 a3 a4 a5 a6 akd asz alk ahm atg avl v24 v34 asz_166 hc166) (cwV 2 hts gX0_redo_39 rfl rfl rfl (by decide +kernel) ⟨Nat.le_of_ble_eq_true rfl, Nat.le_of_ble_eq_true rfl⟩) (preWV (ci := 1) (q0 := 0) hK (hP.sub (ws' := (wX1 cI a0 a1 a2 a3 a4 a5 a6 akd asz alk ahm atg avl)) [2, 3, 4, 5, 6, 7, 8] rfl) (hD.sub (ws' := (wX1 cI a0 a1 a2 a3 a4 a5 a6 akd asz alk ahm atg avl)) [2, 3, 4, 5, 6, 7, 8] (by decide) rfl) rfl rfl) rfl rfl hl.1 rfl (lv_room (Nat.le_of_ble_eq_true rfl)) dX0_redo_166 ⟨Nat.le_of_ble_eq_true rfl, Nat.le_of_ble_eq_true rfl⟩) hS hP hD [2, 3, 4, 5, 6, 7, 8] rfl rfl rfl rfl rfl (fun H locs hP hD hS => ?_)
      cases hf
      exact retV hx hb hr hlocks hP hS dX0_redo_169
    · have hf := it_f c9 hf
      cases hf
      exact retV hx hb hr hlocks hP hS dX0_redo_12
set_option maxHeartbeats 4000000 in
set_option maxRecDepth 100000 in
theorem cX1_links_met (l : Launch) (dC : Nat → ClassId) (dI : Nat → Nat → Nat) (cI : ClassId) (a0 a1 a2 a3 a4 a5 a6 : Nat) (akd : Nat → Int32) (asz : Nat → Int32) (alk : Nat → Int32) (ahm : Nat → Int32) (atg : Nat → Int32) (avl : Nat → Int32) (x1 : Int32) (r : Int32) (hf : fX1_links x1 alk = some r) : Met l yX1_links wsX1_links ({ frames := 0, cells := 0, slots := 0, locals := 0 } : Room) (pcR [.ref a0, .int x1] (dC, dI) vwCl [(cI, .int)] (wX1 cI a0 a1 a2 a3 a4 a5 a6 akd asz alk ahm atg avl)) (qI r pT aN) 0 0 aN := by
  refine Met.ofW (cc := cX1_links) (maxL := 2) (ret := (some .int)) (by decide) rfl ?_
  intro p e s m args below meth c s₁ B hml hv
  obtain ⟨rfl, hP, hK⟩ := hv
  have hx := B.exec
  have hb := B.bytes
  have hr := B.returns
  have hts := atoms_spec (ws := wsX1_links) B.pre
  have hown : s.vm.findClass RX1 = some m.cls := findClass_of_methodNamed B.named
  have hlocks := B.notSynchronized
  have hS : va_S aN s.heap s.heap [] := va_S.rf
  have hl := lv_entry ([.ref a0, .int x1]) (n := 2) (Nat.le_of_ble_eq_true rfl)
  rw [lg_entry_eq]
  generalize (lg_sl ([.ref a0, .int x1]) ++ List.replicate (2 - (lg_sl ([.ref a0, .int x1])).length) Slot.unset).toArray = ls at hl ⊢
  have hl : lv_has ls 2 [(0, .ref a0), (1, .int x1)] := hl
  unfold fX1_links at hf
  refine lv_aload_n hx hb dX1_links_0 rfl (lv_at hl 0 rfl) ?_
  refine va_get (D := (dC, dI)) (ci := 1) (v := .ref a3) (C := RX1) (T := TX1) (N := 6) hx hb hts (fun w h => mc (inX1 w h)) hown hK hP 0 rfl rfl 2 (by decide) (hts _ (mc q_29)) (fun _ h9 => h9) rfl dX1_links_1 ?_
  refine lv_iload_n hx hb dX1_links_4 rfl (lv_at hl 1 rfl) ?_
  obtain ⟨hiv5, v5, ev5, hf⟩ := ard_e hf
  refine rw_ald hx hb hK hP 3 0 rfl rfl hiv5 ev5 dX1_links_5 ?_
  cases hf
  exact retI hx hb hr hlocks trivial hS dX1_links_6
set_option maxHeartbeats 4000000 in
set_option maxRecDepth 100000 in
theorem wbX1_liesIn_5 {p : Program} {l : Launch} {e : Env} {s : State} {m : MethodId} {args : Array Value} {below : List Frame} {meth : Method} {c : Code} {dC : Nat → ClassId} {dI : Nat → Nat → Nat} {cI : ClassId} (hx : p.tables.exec = Jvm.exec) (hb : c.code = cX1_liesIn) (hml : c.maxLocals = 5) (hown : s.vm.findClass RX1 = some m.cls) (hts : ∀ w ∈ wsX1_liesIn, w.before args s = true) (hr : meth.sig.returnType = (some .boolean)) (hlocks : meth.locks = false) (hK : va_K (dC, dI) vwCl [(cI, .int)] s) (a0 a1 a2 a3 a4 a5 a6 : Nat) (akd : Nat → Int32) (asz : Nat → Int32) (alk : Nat → Int32) (ahm : Nat → Int32) (atg : Nat → Int32) (avl : Nat → Int32) (r : Int32) : ∀ (n : Nat), ∀ (x2 : Int32) (x3 : Int32) (x4 : Int32) (H : Heap) (locs : List Loc), va_P (dC, dI) vwCl (wX1 cI a0 a1 a2 a3 a4 a5 a6 akd asz alk ahm atg avl) H → va_S aN s.heap H locs → ∀ (ls : Array Slot), lv_has ls 5 [(0, .ref a0), (2, .int x2), (3, .int x3), (4, .int x4)] → fX1_liesIn_b5 ahm n x2 x3 x4 = some r → W p l e ({ frames := 0, cells := 0, slots := 0, locals := 0 } : Room) s m args below meth c H locs 0 0 (MQ below (qI r pT aN) args s 0 0 aN) (F0 m 5 ls []) := by
  intro n
  induction n with
  | zero =>
    intro x2 x3 x4 H locs hP hS ls hl hf
    cases hf
  | succ n ih =>
    intro x2 x3 x4 H locs hP hS ls hl hf
    rw [fX1_liesIn_b5] at hf
    refine lv_iload hx hb dX1_liesIn_5 (lv_at hl 3 rfl) ?_
    refine lv_bipush (v := 16) hx hb dX1_liesIn_7 (by decide) ?_
    refine lv_icmp_ge (tgt := 32) hx hb dX1_liesIn_9 (by decide) (fun c9 => ?_) (fun c9 => ?_)
    · have hf := it_t c9 hf
      refine lv_iconst (v := 0) hx hb dX1_liesIn_32 (by decide) ?_
      cases hf
      exact retZ hx hb hr hlocks (by decide) trivial hS dX1_liesIn_33
    · have hf := it_f c9 hf
      refine lv_iload_n hx hb dX1_liesIn_12 rfl (lv_at hl 2 rfl) ?_
      refine lv_iload_n hx hb dX1_liesIn_13 rfl (lv_at hl 1 rfl) ?_
      refine lv_icmp_ne (tgt := 19) hx hb dX1_liesIn_14 (by decide) (fun c14 => ?_) (fun c14 => ?_)
      · have hf := it_f c14 hf
        refine lv_aload_n hx hb dX1_liesIn_19 rfl (lv_at hl 0 rfl) ?_
        refine va_get (D := (dC, dI)) (ci := 1) (v := .ref a4) (C := RX1) (T := TX1) (N := 6) hx hb hts (fun w h => mc (inX1 w h)) hown hK hP 0 rfl rfl 3 (by decide) (hts _ (mc q_30)) (fun _ h9 => h9) rfl dX1_liesIn_20 ?_
        refine lv_iload_n hx hb dX1_liesIn_23 rfl (lv_at hl 2 rfl) ?_
        obtain ⟨hiv24, v24, ev24, hf⟩ := ard_e hf
        refine rw_ald hx hb hK hP 4 0 rfl rfl hiv24 ev24 dX1_liesIn_24 ?_
        refine lv_istore_n (lv' := [(3, .int v24), (0, .ref a0), (2, .int x2), (4, .int x4)]) hx hb dX1_liesIn_25 rfl hl (by decide) rfl (fun ls hl => ?_)
        obtain ⟨v26, ev26, hf⟩ := slet_e hf
        refine lv_iinc (v := v26) (lv' := [(4, .int v26), (3, .int v24), (0, .ref a0), (2, .int x2)]) hx hb dX1_liesIn_26 hl (k := 3) rfl (by rw [ev26]; rfl) (by decide) rfl (fun ls hl => ?_)
        refine lv_goto (tgt := 5) hx hb dX1_liesIn_29 (by decide) ?_
        exact ih x2 v24 v26 _ _ hP hS _ (lv_sub hl [2, 3, 1, 0] rfl) hf
      · have hf := it_t c14 hf
        refine lv_iconst (v := 1) hx hb dX1_liesIn_17 (by decide) ?_
        cases hf
        exact retZ hx hb hr hlocks (by decide) trivial hS dX1_liesIn_18
set_option maxHeartbeats 4000000 in
set_option maxRecDepth 100000 in
theorem cX1_liesIn_met (l : Launch) (dC : Nat → ClassId) (dI : Nat → Nat → Nat) (cI : ClassId) (a0 a1 a2 a3 a4 a5 a6 : Nat) (akd : Nat → Int32) (asz : Nat → Int32) (alk : Nat → Int32) (ahm : Nat → Int32) (atg : Nat → Int32) (avl : Nat → Int32) (x1 : Int32) (x2 : Int32) (r : Int32) (hf : fX1_liesIn x1 x2 ahm = some r) : Met l yX1_liesIn wsX1_liesIn ({ frames := 0, cells := 0, slots := 0, locals := 0 } : Room) (pcR [.ref a0, .int x1, .int x2] (dC, dI) vwCl [(cI, .int)] (wX1 cI a0 a1 a2 a3 a4 a5 a6 akd asz alk ahm atg avl)) (qI r pT aN) 0 0 aN := by
  refine Met.ofW (cc := cX1_liesIn) (maxL := 5) (ret := (some .boolean)) (by decide) rfl ?_
  intro p e s m args below meth c s₁ B hml hv
  obtain ⟨rfl, hP, hK⟩ := hv
  have hx := B.exec
  have hb := B.bytes
  have hr := B.returns
  have hts := atoms_spec (ws := wsX1_liesIn) B.pre
  have hown : s.vm.findClass RX1 = some m.cls := findClass_of_methodNamed B.named
  have hlocks := B.notSynchronized
  have hS : va_S aN s.heap s.heap [] := va_S.rf
  have hl := lv_entry ([.ref a0, .int x1, .int x2]) (n := 5) (Nat.le_of_ble_eq_true rfl)
  rw [lg_entry_eq]
  generalize (lg_sl ([.ref a0, .int x1, .int x2]) ++ List.replicate (5 - (lg_sl ([.ref a0, .int x1, .int x2])).length) Slot.unset).toArray = ls at hl ⊢
  have hl : lv_has ls 5 [(0, .ref a0), (1, .int x1), (2, .int x2)] := hl
  unfold fX1_liesIn at hf
  refine lv_iload_n hx hb dX1_liesIn_0 rfl (lv_at hl 1 rfl) ?_
  refine lv_istore_n (lv' := [(3, .int x1), (0, .ref a0), (1, .int x1), (2, .int x2)]) hx hb dX1_liesIn_1 rfl hl (by decide) rfl (fun ls hl => ?_)
  refine lv_iconst (v := 0) hx hb dX1_liesIn_2 (by decide) ?_
  refine lv_istore (lv' := [(4, .int 0), (3, .int x1), (0, .ref a0), (1, .int x1), (2, .int x2)]) hx hb dX1_liesIn_3 hl (by decide) rfl (fun ls hl => ?_)
  exact wbX1_liesIn_5 hx hb hml hown hts hr hlocks hK a0 a1 a2 a3 a4 a5 a6 akd asz alk ahm atg avl r 2000 x2 x1 0 _ _ hP hS _ (lv_sub hl [2, 4, 1, 0] rfl) hf
theorem gX1_nthName_36 : GoodIn wsX1_nthName (wsV RX1 36 RX1 yX1_target wsX1_target) := gIn (memV q_141 q_75 q_76 q_3 q_77)
set_option maxHeartbeats 4000000 in
set_option maxRecDepth 100000 in
theorem wbX1_nthName_5 {p : Program} {l : Launch} {e : Env} {s : State} {m : MethodId} {args : Array Value} {below : List Frame} {meth : Method} {c : Code} {dC : Nat → ClassId} {dI : Nat → Nat → Nat} {cI : ClassId} (hx : p.tables.exec = Jvm.exec) (hb : c.code = cX1_nthName) (hml : c.maxLocals = 5) (hown : s.vm.findClass RX1 = some m.cls) (hts : ∀ w ∈ wsX1_nthName, w.before args s = true) (hr : meth.sig.returnType = (some .int)) (hlocks : meth.locks = false) (hK : va_K (dC, dI) vwCl [(cI, .int)] s) (a0 a1 a2 a3 a4 a5 a6 : Nat) (akd : Nat → Int32) (asz : Nat → Int32) (alk : Nat → Int32) (ahm : Nat → Int32) (atg : Nat → Int32) (avl : Nat → Int32) (r : Int32) : ∀ (n : Nat), ∀ (x1 : Int32) (x2 : Int32) (x3 : Int32) (x4 : Int32) (H : Heap) (locs : List Loc), va_P (dC, dI) vwCl (wX1 cI a0 a1 a2 a3 a4 a5 a6 akd asz alk ahm atg avl) H → va_S aN s.heap H locs → ∀ (ls : Array Slot), lv_has ls 5 [(0, .ref a0), (1, .int x1), (2, .int x2), (3, .int x3), (4, .int x4)] → fX1_nthName_b5 atg n x1 x2 x3 x4 = some r → W p l e ({ frames := 1, cells := 0, slots := 0, locals := 22 } : Room) s m args below meth c H locs 0 0 (MQ below (qI r pT aN) args s 0 0 aN) (F0 m 5 ls []) := by
  intro n
  induction n with
  | zero =>
    intro x1 x2 x3 x4 H locs hP hS ls hl hf
    cases hf
  | succ n ih =>
    intro x1 x2 x3 x4 H locs hP hS ls hl hf
    rw [fX1_nthName_b5] at hf
    refine lv_iload hx hb dX1_nthName_5 (lv_at hl 4 rfl) ?_
    refine lv_bipush (v := 32) hx hb dX1_nthName_7 (by decide) ?_
    refine lv_icmp_ge (tgt := 39) hx hb dX1_nthName_9 (by decide) (fun c9 => ?_) (fun c9 => ?_)
    · have hf := it_t c9 hf
      refine lv_iconst (v := -1) hx hb dX1_nthName_39 (by decide) ?_
      cases hf
      exact retI hx hb hr hlocks trivial hS dX1_nthName_40
    · have hf := it_f c9 hf
      refine lv_aload_n hx hb dX1_nthName_12 rfl (lv_at hl 0 rfl) ?_
      refine lv_iload_n hx hb dX1_nthName_13 rfl (lv_at hl 1 rfl) ?_
      refine lv_iload hx hb dX1_nthName_14 (lv_at hl 4 rfl) ?_
      obtain ⟨r16, hc16, hf⟩ := bn1_e hf
      refine callRi (va_runV (As := [.int x1, .int x4]) (rest := []) ⟨hx, hb, hml, hown, hts⟩ (cX1_target_met l dC dI cI a0 a1 a2 a3 a4 a5 a6 akd asz alk ahm atg avl x1 x4 r16 hc16) (cwV 2 hts gX1_nthName_36 rfl rfl rfl (by decide +kernel) ⟨Nat.le_of_ble_eq_true rfl, Nat.le_of_ble_eq_true rfl⟩) (preRV (ci := 1) (q0 := 0) hK (hP.sub (ws' := (wX1 cI a0 a1 a2 a3 a4 a5 a6 akd asz alk ahm atg avl)) [0, 1, 2, 3, 4, 5, 6] rfl) rfl rfl) rfl rfl hl.1 rfl (lv_room (Nat.le_of_ble_eq_true rfl)) dX1_nthName_16 ⟨Nat.le_of_ble_eq_true rfl, Nat.le_of_ble_eq_true rfl⟩) hS hP (fun H locs hP hS => ?_)
      refine lv_if_eq (tgt := 33) hx hb dX1_nthName_19 (by decide) (fun c19 => ?_) (fun c19 => ?_)
      · have hf := it_t c19 hf
        obtain ⟨v33, ev33, hf⟩ := slet_e hf
        refine lv_iinc (v := v33) (lv' := [(4, .int v33), (0, .ref a0), (1, .int x1), (2, .int x2), (3, .int x3)]) hx hb dX1_nthName_33 hl (k := 4) rfl (by rw [ev33]; rfl) (by decide) rfl (fun ls hl => ?_)
        refine lv_goto (tgt := 5) hx hb dX1_nthName_36 (by decide) ?_
        exact ih x1 x2 x3 v33 _ _ hP hS _ (lv_sub hl [1, 2, 3, 4, 0] rfl) hf
      · have hf := it_f c19 hf
        refine lv_iload_n hx hb dX1_nthName_22 rfl (lv_at hl 3 rfl) ?_
        refine lv_iload_n hx hb dX1_nthName_23 rfl (lv_at hl 2 rfl) ?_
        refine lv_icmp_ne (tgt := 30) hx hb dX1_nthName_24 (by decide) (fun c24 => ?_) (fun c24 => ?_)
        · have hf := it_f c24 hf
          obtain ⟨v30, ev30, hf⟩ := slet_e hf
          refine lv_iinc (v := v30) (lv' := [(3, .int v30), (0, .ref a0), (1, .int x1), (2, .int x2), (4, .int x4)]) hx hb dX1_nthName_30 hl (k := 3) rfl (by rw [ev30]; rfl) (by decide) rfl (fun ls hl => ?_)
          obtain ⟨v33, ev33, hf⟩ := slet_e hf
          refine lv_iinc (v := v33) (lv' := [(4, .int v33), (3, .int v30), (0, .ref a0), (1, .int x1), (2, .int x2)]) hx hb dX1_nthName_33 hl (k := 4) rfl (by rw [ev33]; rfl) (by decide) rfl (fun ls hl => ?_)
          refine lv_goto (tgt := 5) hx hb dX1_nthName_36 (by decide) ?_
          exact ih x1 x2 v30 v33 _ _ hP hS _ (lv_sub hl [2, 3, 4, 1, 0] rfl) hf
        · have hf := it_t c24 hf
          refine lv_iload hx hb dX1_nthName_27 (lv_at hl 4 rfl) ?_
          cases hf
          exact retI hx hb hr hlocks trivial hS dX1_nthName_29
set_option maxHeartbeats 4000000 in
set_option maxRecDepth 100000 in
theorem cX1_nthName_met (l : Launch) (dC : Nat → ClassId) (dI : Nat → Nat → Nat) (cI : ClassId) (a0 a1 a2 a3 a4 a5 a6 : Nat) (akd : Nat → Int32) (asz : Nat → Int32) (alk : Nat → Int32) (ahm : Nat → Int32) (atg : Nat → Int32) (avl : Nat → Int32) (x1 : Int32) (x2 : Int32) (r : Int32) (hf : fX1_nthName x1 x2 atg = some r) : Met l yX1_nthName wsX1_nthName ({ frames := 1, cells := 0, slots := 0, locals := 22 } : Room) (pcR [.ref a0, .int x1, .int x2] (dC, dI) vwCl [(cI, .int)] (wX1 cI a0 a1 a2 a3 a4 a5 a6 akd asz alk ahm atg avl)) (qI r pT aN) 0 0 aN := by
  refine Met.ofW (cc := cX1_nthName) (maxL := 5) (ret := (some .int)) (by decide) rfl ?_
  intro p e s m args below meth c s₁ B hml hv
  obtain ⟨rfl, hP, hK⟩ := hv
  have hx := B.exec
  have hb := B.bytes
  have hr := B.returns
  have hts := atoms_spec (ws := wsX1_nthName) B.pre
  have hown : s.vm.findClass RX1 = some m.cls := findClass_of_methodNamed B.named
  have hlocks := B.notSynchronized
  have hS : va_S aN s.heap s.heap [] := va_S.rf
  have hl := lv_entry ([.ref a0, .int x1, .int x2]) (n := 5) (Nat.le_of_ble_eq_true rfl)
  rw [lg_entry_eq]
  generalize (lg_sl ([.ref a0, .int x1, .int x2]) ++ List.replicate (5 - (lg_sl ([.ref a0, .int x1, .int x2])).length) Slot.unset).toArray = ls at hl ⊢
  have hl : lv_has ls 5 [(0, .ref a0), (1, .int x1), (2, .int x2)] := hl
  unfold fX1_nthName at hf
  refine lv_iconst (v := 0) hx hb dX1_nthName_0 (by decide) ?_
  refine lv_istore_n (lv' := [(3, .int 0), (0, .ref a0), (1, .int x1), (2, .int x2)]) hx hb dX1_nthName_1 rfl hl (by decide) rfl (fun ls hl => ?_)
  refine lv_iconst (v := 0) hx hb dX1_nthName_2 (by decide) ?_
  refine lv_istore (lv' := [(4, .int 0), (3, .int 0), (0, .ref a0), (1, .int x1), (2, .int x2)]) hx hb dX1_nthName_3 hl (by decide) rfl (fun ls hl => ?_)
  exact wbX1_nthName_5 hx hb hml hown hts hr hlocks hK a0 a1 a2 a3 a4 a5 a6 akd asz alk ahm atg avl r 2000 x1 x2 0 0 _ _ hP hS _ (lv_sub hl [2, 3, 4, 1, 0] rfl) hf
set_option maxHeartbeats 4000000 in
set_option maxRecDepth 100000 in
theorem cX1_value_met (l : Launch) (dC : Nat → ClassId) (dI : Nat → Nat → Nat) (cI : ClassId) (a0 a1 a2 a3 a4 a5 a6 : Nat) (akd : Nat → Int32) (asz : Nat → Int32) (alk : Nat → Int32) (ahm : Nat → Int32) (atg : Nat → Int32) (avl : Nat → Int32) (x1 : Int32) (x2 : Int32) (r : Int32) (hf : fX1_value x1 x2 avl = some r) : Met l yX1_value wsX1_value ({ frames := 0, cells := 0, slots := 0, locals := 0 } : Room) (pcR [.ref a0, .int x1, .int x2] (dC, dI) vwCl [(cI, .int)] (wX1 cI a0 a1 a2 a3 a4 a5 a6 akd asz alk ahm atg avl)) (qI r pT aN) 0 0 aN := by
  refine Met.ofW (cc := cX1_value) (maxL := 3) (ret := (some .int)) (by decide) rfl ?_
  intro p e s m args below meth c s₁ B hml hv
  obtain ⟨rfl, hP, hK⟩ := hv
  have hx := B.exec
  have hb := B.bytes
  have hr := B.returns
  have hts := atoms_spec (ws := wsX1_value) B.pre
  have hown : s.vm.findClass RX1 = some m.cls := findClass_of_methodNamed B.named
  have hlocks := B.notSynchronized
  have hS : va_S aN s.heap s.heap [] := va_S.rf
  have hl := lv_entry ([.ref a0, .int x1, .int x2]) (n := 3) (Nat.le_of_ble_eq_true rfl)
  rw [lg_entry_eq]
  generalize (lg_sl ([.ref a0, .int x1, .int x2]) ++ List.replicate (3 - (lg_sl ([.ref a0, .int x1, .int x2])).length) Slot.unset).toArray = ls at hl ⊢
  have hl : lv_has ls 3 [(0, .ref a0), (1, .int x1), (2, .int x2)] := hl
  unfold fX1_value at hf
  refine lv_aload_n hx hb dX1_value_0 rfl (lv_at hl 0 rfl) ?_
  refine va_get (D := (dC, dI)) (ci := 1) (v := .ref a6) (C := RX1) (T := TX1) (N := 6) hx hb hts (fun w h => mc (inX1 w h)) hown hK hP 0 rfl rfl 5 (by decide) (hts _ (mc q_32)) (fun _ h9 => h9) rfl dX1_value_1 ?_
  refine lv_iload_n hx hb dX1_value_4 rfl (lv_at hl 1 rfl) ?_
  refine lv_bipush (v := 8) hx hb dX1_value_5 (by decide) ?_
  obtain ⟨v7, ev7, hf⟩ := slet_e hf
  refine lv_imul hx hb dX1_value_7 ?_
  refine rw_nm ev7 ?_
  refine lv_iload_n hx hb dX1_value_8 rfl (lv_at hl 2 rfl) ?_
  obtain ⟨v9, ev9, hf⟩ := slet_e hf
  refine lv_iadd hx hb dX1_value_9 ?_
  refine rw_nm ev9 ?_
  obtain ⟨hiv10, v10, ev10, hf⟩ := ard_e hf
  refine rw_ald hx hb hK hP 6 0 rfl rfl hiv10 ev10 dX1_value_10 ?_
  cases hf
  exact retI hx hb hr hlocks trivial hS dX1_value_11
set_option maxHeartbeats 4000000 in
set_option maxRecDepth 100000 in
theorem cX1_kind_met (l : Launch) (dC : Nat → ClassId) (dI : Nat → Nat → Nat) (cI : ClassId) (a0 a1 a2 a3 a4 a5 a6 : Nat) (akd : Nat → Int32) (asz : Nat → Int32) (alk : Nat → Int32) (ahm : Nat → Int32) (atg : Nat → Int32) (avl : Nat → Int32) (x1 : Int32) (r : Int32) (hf : fX1_kind x1 akd = some r) : Met l yX1_kind wsX1_kind ({ frames := 0, cells := 0, slots := 0, locals := 0 } : Room) (pcR [.ref a0, .int x1] (dC, dI) vwCl [(cI, .int)] (wX1 cI a0 a1 a2 a3 a4 a5 a6 akd asz alk ahm atg avl)) (qI r pT aN) 0 0 aN := by
  refine Met.ofW (cc := cX1_kind) (maxL := 2) (ret := (some .int)) (by decide) rfl ?_
  intro p e s m args below meth c s₁ B hml hv
  obtain ⟨rfl, hP, hK⟩ := hv
  have hx := B.exec
  have hb := B.bytes
  have hr := B.returns
  have hts := atoms_spec (ws := wsX1_kind) B.pre
  have hown : s.vm.findClass RX1 = some m.cls := findClass_of_methodNamed B.named
  have hlocks := B.notSynchronized
  have hS : va_S aN s.heap s.heap [] := va_S.rf
  have hl := lv_entry ([.ref a0, .int x1]) (n := 2) (Nat.le_of_ble_eq_true rfl)
  rw [lg_entry_eq]
  generalize (lg_sl ([.ref a0, .int x1]) ++ List.replicate (2 - (lg_sl ([.ref a0, .int x1])).length) Slot.unset).toArray = ls at hl ⊢
  have hl : lv_has ls 2 [(0, .ref a0), (1, .int x1)] := hl
  unfold fX1_kind at hf
  refine lv_aload_n hx hb dX1_kind_0 rfl (lv_at hl 0 rfl) ?_
  refine va_get (D := (dC, dI)) (ci := 1) (v := .ref a1) (C := RX1) (T := TX1) (N := 6) hx hb hts (fun w h => mc (inX1 w h)) hown hK hP 0 rfl rfl 0 (by decide) (hts _ (mc q_27)) (fun _ h9 => h9) rfl dX1_kind_1 ?_
  refine lv_iload_n hx hb dX1_kind_4 rfl (lv_at hl 1 rfl) ?_
  obtain ⟨hiv5, v5, ev5, hf⟩ := ard_e hf
  refine rw_ald hx hb hK hP 1 0 rfl rfl hiv5 ev5 dX1_kind_5 ?_
  cases hf
  exact retI hx hb hr hlocks trivial hS dX1_kind_6
set_option maxHeartbeats 4000000 in
set_option maxRecDepth 100000 in
theorem wbX1_nodesThere_4 {p : Program} {l : Launch} {e : Env} {s : State} {m : MethodId} {args : Array Value} {below : List Frame} {meth : Method} {c : Code} {dC : Nat → ClassId} {dI : Nat → Nat → Nat} {cI : ClassId} (hx : p.tables.exec = Jvm.exec) (hb : c.code = cX1_nodesThere) (hml : c.maxLocals = 3) (hown : s.vm.findClass RX1 = some m.cls) (hts : ∀ w ∈ wsX1_nodesThere, w.before args s = true) (hr : meth.sig.returnType = (some .int)) (hlocks : meth.locks = false) (hK : va_K (dC, dI) vwCl [(cI, .int)] s) (a0 a1 a2 a3 a4 a5 a6 : Nat) (akd : Nat → Int32) (asz : Nat → Int32) (alk : Nat → Int32) (ahm : Nat → Int32) (atg : Nat → Int32) (avl : Nat → Int32) (r : Int32) : ∀ (n : Nat), ∀ (x1 : Int32) (x2 : Int32) (H : Heap) (locs : List Loc), va_P (dC, dI) vwCl (wX1 cI a0 a1 a2 a3 a4 a5 a6 akd asz alk ahm atg avl) H → va_S aN s.heap H locs → ∀ (ls : Array Slot), lv_has ls 3 [(0, .ref a0), (1, .int x1), (2, .int x2)] → fX1_nodesThere_b4 akd n x1 x2 = some r → W p l e ({ frames := 0, cells := 0, slots := 0, locals := 0 } : Room) s m args below meth c H locs 0 0 (MQ below (qI r pT aN) args s 0 0 aN) (F0 m 4 ls []) := by
  intro n
  induction n with
  | zero =>
    intro x1 x2 H locs hP hS ls hl hf
    cases hf
  | succ n ih =>
    intro x1 x2 H locs hP hS ls hl hf
    rw [fX1_nodesThere_b4] at hf
    refine lv_iload_n hx hb dX1_nodesThere_4 rfl (lv_at hl 2 rfl) ?_
    refine lv_bipush (v := 16) hx hb dX1_nodesThere_5 (by decide) ?_
    refine lv_icmp_ge (tgt := 28) hx hb dX1_nodesThere_7 (by decide) (fun c7 => ?_) (fun c7 => ?_)
    · have hf := it_t c7 hf
      refine lv_iload_n hx hb dX1_nodesThere_28 rfl (lv_at hl 1 rfl) ?_
      cases hf
      exact retI hx hb hr hlocks trivial hS dX1_nodesThere_29
    · have hf := it_f c7 hf
      refine lv_aload_n hx hb dX1_nodesThere_10 rfl (lv_at hl 0 rfl) ?_
      refine va_get (D := (dC, dI)) (ci := 1) (v := .ref a1) (C := RX1) (T := TX1) (N := 6) hx hb hts (fun w h => mc (inX1 w h)) hown hK hP 0 rfl rfl 0 (by decide) (hts _ (mc q_27)) (fun _ h9 => h9) rfl dX1_nodesThere_11 ?_
      refine lv_iload_n hx hb dX1_nodesThere_14 rfl (lv_at hl 2 rfl) ?_
      obtain ⟨hiv15, v15, ev15, hf⟩ := ard_e hf
      refine rw_ald hx hb hK hP 1 0 rfl rfl hiv15 ev15 dX1_nodesThere_15 ?_
      refine lv_if_eq (tgt := 22) hx hb dX1_nodesThere_16 (by decide) (fun c16 => ?_) (fun c16 => ?_)
      · have hf := it_t c16 hf
        obtain ⟨v22, ev22, hf⟩ := slet_e hf
        refine lv_iinc (v := v22) (lv' := [(2, .int v22), (0, .ref a0), (1, .int x1)]) hx hb dX1_nodesThere_22 hl (k := 2) rfl (by rw [ev22]; rfl) (by decide) rfl (fun ls hl => ?_)
        refine lv_goto (tgt := 4) hx hb dX1_nodesThere_25 (by decide) ?_
        exact ih x1 v22 _ _ hP hS _ (lv_sub hl [1, 2, 0] rfl) hf
      · have hf := it_f c16 hf
        obtain ⟨v19, ev19, hf⟩ := slet_e hf
        refine lv_iinc (v := v19) (lv' := [(1, .int v19), (0, .ref a0), (2, .int x2)]) hx hb dX1_nodesThere_19 hl (k := 1) rfl (by rw [ev19]; rfl) (by decide) rfl (fun ls hl => ?_)
        obtain ⟨v22, ev22, hf⟩ := slet_e hf
        refine lv_iinc (v := v22) (lv' := [(2, .int v22), (1, .int v19), (0, .ref a0)]) hx hb dX1_nodesThere_22 hl (k := 2) rfl (by rw [ev22]; rfl) (by decide) rfl (fun ls hl => ?_)
        refine lv_goto (tgt := 4) hx hb dX1_nodesThere_25 (by decide) ?_
        exact ih v19 v22 _ _ hP hS _ (lv_sub hl [2, 1, 0] rfl) hf
set_option maxHeartbeats 4000000 in
set_option maxRecDepth 100000 in
theorem cX1_nodesThere_met (l : Launch) (dC : Nat → ClassId) (dI : Nat → Nat → Nat) (cI : ClassId) (a0 a1 a2 a3 a4 a5 a6 : Nat) (akd : Nat → Int32) (asz : Nat → Int32) (alk : Nat → Int32) (ahm : Nat → Int32) (atg : Nat → Int32) (avl : Nat → Int32) (r : Int32) (hf : fX1_nodesThere akd = some r) : Met l yX1_nodesThere wsX1_nodesThere ({ frames := 0, cells := 0, slots := 0, locals := 0 } : Room) (pcR [.ref a0] (dC, dI) vwCl [(cI, .int)] (wX1 cI a0 a1 a2 a3 a4 a5 a6 akd asz alk ahm atg avl)) (qI r pT aN) 0 0 aN := by
  refine Met.ofW (cc := cX1_nodesThere) (maxL := 3) (ret := (some .int)) (by decide) rfl ?_
  intro p e s m args below meth c s₁ B hml hv
  obtain ⟨rfl, hP, hK⟩ := hv
  have hx := B.exec
  have hb := B.bytes
  have hr := B.returns
  have hts := atoms_spec (ws := wsX1_nodesThere) B.pre
  have hown : s.vm.findClass RX1 = some m.cls := findClass_of_methodNamed B.named
  have hlocks := B.notSynchronized
  have hS : va_S aN s.heap s.heap [] := va_S.rf
  have hl := lv_entry ([.ref a0]) (n := 3) (Nat.le_of_ble_eq_true rfl)
  rw [lg_entry_eq]
  generalize (lg_sl ([.ref a0]) ++ List.replicate (3 - (lg_sl ([.ref a0])).length) Slot.unset).toArray = ls at hl ⊢
  have hl : lv_has ls 3 [(0, .ref a0)] := hl
  unfold fX1_nodesThere at hf
  refine lv_iconst (v := 0) hx hb dX1_nodesThere_0 (by decide) ?_
  refine lv_istore_n (lv' := [(1, .int 0), (0, .ref a0)]) hx hb dX1_nodesThere_1 rfl hl (by decide) rfl (fun ls hl => ?_)
  refine lv_iconst (v := 0) hx hb dX1_nodesThere_2 (by decide) ?_
  refine lv_istore_n (lv' := [(2, .int 0), (1, .int 0), (0, .ref a0)]) hx hb dX1_nodesThere_3 rfl hl (by decide) rfl (fun ls hl => ?_)
  exact wbX1_nodesThere_4 hx hb hml hown hts hr hlocks hK a0 a1 a2 a3 a4 a5 a6 akd asz alk ahm atg avl r 2000 0 0 _ _ hP hS _ (lv_sub hl [2, 1, 0] rfl) hf
