def em (i : Nat) : AR := fun j => if j < i then -1 else 0
theorem em_0 : em 0 = z0 := by
  funext j
  unfold em
  rw [if_neg (by omega)]
theorem em_1 {i : Nat} : upd (em i) i (-1) = em (i + 1) := by
  funext j
  unfold upd em
  by_cases h : j = i
  · subst h
    rw [if_pos rfl, if_pos (by omega)]
  · rw [if_neg h]
    by_cases h2 : j < i
    · rw [if_pos h2, if_pos (by omega)]
    · rw [if_neg h2, if_neg (by omega)]
def clM (x1 : Int32) : Int32 := if (4 : Int32) ≤ x1 then (if x1 ≤ 8 then x1 else 8) else 4
def limM (x1 : Int32) : Int32 := 8 * (clM x1 - 2)
abbrev kd0 : AR := cpk (upd z0 0 2) 16 0 1 16
abbrev sz00 : AR := cpk z0 16 0 1 16
abbrev ct0 : AR := cpk z0 128 0 1 128
abbrev en0 : AR := cpk (em 1536) 512 0 1 512
set_option maxHeartbeats 4000000 in
set_option maxRecDepth 100000 in
theorem cX3_init_loop {p : Program} {l : Launch} {e : Env} {s : State} {m : MethodId} {args : Array Value} {below : List Frame} {meth : Method} {c : Code} {dC : Nat → ClassId} {dI : Nat → Nat → Nat} {cI : ClassId} {A : Nat → Prop} {Q : State → Prop} (hx : p.tables.exec = Jvm.exec) (hb : c.code = cX3_init) (hown : s.vm.findClass RX3 = some m.cls) (hts : ∀ w ∈ wsX3_init, w.before args s = true) (hK : va_K (dC, dI) vwCl [(cI, .int)] s) (h0 m1 m2 m3 m4 m5 : Nat) (x1 : Int32) (cont : ∀ (H : Heap) (locs : List Loc) (ls : Array Slot), va_P (dC, dI) vwCl (wX3 cI h0 m1 m2 m3 m4 m5 (limM x1) 1 0 0 z0 z0 z0 (em 1536) z0) H → va_D A (wX3 cI h0 m1 m2 m3 m4 m5 (limM x1) 1 0 0 z0 z0 z0 (em 1536) z0) → va_S A s.heap H locs → lv_has ls 4 [(3, .int (nI 1536)), (0, .ref h0)] → W p l e ({ frames := 1, cells := 5, slots := 2216, locals := 23 } : Room) s m args below meth c H locs 5 2216 Q (F0 m 106 ls [])) : ∀ (n k : Nat) (H : Heap) (locs : List Loc) (ls : Array Slot), k + n = 1536 → va_P (dC, dI) vwCl (wX3 cI h0 m1 m2 m3 m4 m5 (limM x1) 1 0 0 z0 z0 z0 (em k) z0) H → va_D A (wX3 cI h0 m1 m2 m3 m4 m5 (limM x1) 1 0 0 z0 z0 z0 (em k) z0) → va_S A s.heap H locs → lv_has ls 4 [(3, .int (nI k)), (0, .ref h0)] → W p l e ({ frames := 1, cells := 5, slots := 2216, locals := 23 } : Room) s m args below meth c H locs 5 2216 Q (F0 m 86 ls []) := by
  intro n
  induction n with
  | zero =>
    intro k H locs ls hk hP hD hS hl
    have : k = 1536 := by omega
    subst this
    refine lv_iload_n hx hb dX3_init_86 rfl (lv_at hl 0 rfl) ?_
    refine lv_sipush (v := 1536) hx hb dX3_init_87 (by decide) ?_
    refine lv_icmp_ge (tgt := 106) hx hb dX3_init_90 (by decide) (fun q => ?_) (fun q => ?_)
    · exact cont H locs ls hP hD hS hl
    · exact absurd (show (1536 : Int32) ≤ nI 1536 by decide) q
  | succ n ih =>
    intro k H locs ls hk hP hD hS hl
    refine lv_iload_n hx hb dX3_init_86 rfl (lv_at hl 0 rfl) ?_
    refine lv_sipush (v := 1536) hx hb dX3_init_87 (by decide) ?_
    refine lv_icmp_ge (tgt := 106) hx hb dX3_init_90 (by decide) (fun q => ?_) (fun q => ?_)
    · exact absurd q (nI_ge (a := k) (b := 1536) (by omega) (by decide))
    · refine lv_aload_n hx hb dX3_init_93 rfl (lv_at hl 1 rfl) ?_
      refine va_get (D := (dC, dI)) (ci := 3) (v := .ref m4) (C := RX3) (T := TX3) (N := 9) hx hb hts (fun w h => mc (inX3 w h)) hown hK hP 0 rfl rfl 4 (by decide) (hts _ (mc q_246)) (fun _ h9 => h9) rfl dX3_init_94 ?_
      refine lv_iload_n hx hb dX3_init_97 rfl (lv_at hl 0 rfl) ?_
      refine lv_iconst (v := -1) hx hb dX3_init_98 (by decide) ?_
      refine rw_ast (g := em (k + 1)) (ws' := (wX3 cI h0 m1 m2 m3 m4 m5 (limM x1) 1 0 0 z0 z0 z0 (em (k + 1)) z0)) hx hb hK hP hD hS 4 0 rfl rfl (vp_in_nI (by omega) (by decide)) (by rw [nI_clamp (by omega)]; exact em_1.symm) rfl dX3_init_99 (fun H locs hP hD hS => ?_)
      refine lv_iinc (v := nI (k + 1)) (lv' := [(3, .int (nI (k + 1))), (0, .ref h0)]) hx hb dX3_init_100 hl (k := 0) rfl (nI_1 k) (by decide) rfl (fun ls hl => ?_)
      refine lv_goto (tgt := 86) hx hb dX3_init_103 (by decide) ?_
      exact ih (k + 1) H locs ls (by omega) hP hD hS hl
set_option maxHeartbeats 4000000 in
set_option maxRecDepth 100000 in
theorem cX3_init_met (l : Launch) (dC : Nat → ClassId) (dI : Nat → Nat → Nat) (cI : ClassId) (h0 sz : Nat) (x1 : Int32) : Met l yX3_init wsX3_init ({ frames := 1, cells := 5, slots := 2216, locals := 23 } : Room) (pcN [.ref h0, .int x1] (dC, dI) vwCl [(cI, .int)] [(h0, .inr (3, [.int 0, .null, .null, .null, .null, .int 0, .int 0, .int 0, .null]))] sz) (qV (fun H => ∃ m1 m2 m3 m4 m5 : Nat, va_P (dC, dI) vwCl (wX3 cI h0 m1 m2 m3 m4 m5 (limM x1) 1 0 0 kd0 sz00 ct0 en0 z0) H ∧ va_D (va_A [(h0, .inr (3, [.int 0, .null, .null, .null, .null, .int 0, .int 0, .int 0, .null]))] sz) (wX3 cI h0 m1 m2 m3 m4 m5 (limM x1) 1 0 0 kd0 sz00 ct0 en0 z0)) (va_A [(h0, .inr (3, [.int 0, .null, .null, .null, .null, .int 0, .int 0, .int 0, .null]))] sz)) 5 2216 (va_A [(h0, .inr (3, [.int 0, .null, .null, .null, .null, .int 0, .int 0, .int 0, .null]))] sz) := by
  refine Met.ofW (cc := cX3_init) (maxL := 4) (ret := none) (by decide) rfl ?_
  intro p e s m args below meth c s₁ B hml hv
  obtain ⟨rfl, hsz, hP, hK, hD0⟩ := hv
  have hx := B.exec
  have hb := B.bytes
  have hr := B.returns
  have hts := atoms_spec (ws := wsX3_init) B.pre
  have hown : s.vm.findClass RX3 = some m.cls := findClass_of_methodNamed B.named
  have hlocks := B.notSynchronized
  have hin : meth.name = "<init>" := (name_of_methodNamed B.named B.method).1
  subst hsz
  have hD := hD0.self (sz := s.heap.size)
  generalize hAe : va_A [(h0, .inr (3, [.int 0, .null, .null, .null, .null, .int 0, .int 0, .int 0, .null]))] s.heap.size = A at hD ⊢
  have hA : ∀ q : Nat, s.heap.size ≤ q → A q := fun q h => by rw [← hAe]; exact Or.inr h
  have hS : va_S A s.heap s.heap [] := va_S.rf
  have hP : va_P (dC, dI) vwCl [(h0, .inr (3, [.int 0, .null, .null, .null, .null, .int 0, .int 0, .int 0, .null]))] s.heap := hP
  have hl := lv_entry ([.ref h0, .int x1]) (n := 4) (Nat.le_of_ble_eq_true rfl)
  rw [lg_entry_eq]
  generalize (lg_sl ([.ref h0, .int x1]) ++ List.replicate (4 - (lg_sl ([.ref h0, .int x1])).length) Slot.unset).toArray = ls at hl ⊢
  have hl : lv_has ls 4 [(0, .ref h0), (1, .int x1)] := hl
  refine lv_aload_n hx hb dX3_init_0 rfl (lv_at hl 0 rfl) ?_
  refine W.objInit hx hb hown (hts _ (mc q_238)) (hts _ (mc q_13)) (hts _ (mc q_14)) rfl (by rw [hml]; exact hl.1) rfl dX3_init_1 (Nat.le_of_ble_eq_true rfl) (Nat.le_of_ble_eq_true rfl) ?_
  refine W.eq (g2 := F0 m 4 ls []) rfl ?_
  refine lv_aload_n hx hb dX3_init_4 rfl (lv_at hl 0 rfl) ?_
  refine lv_bipush (v := 48) hx hb dX3_init_5 (by decide) ?_
  refine rw_newa (N' := 48) hx hb (hts _ (mc q_33)) hK hP hD hS hA (by decide) (by decide) (by decide) (Nat.le_of_ble_eq_true rfl) (Nat.le_of_ble_eq_true rfl) dX3_init_7 (fun m1 H hP hD hS => ?_)
  have hP : va_P (dC, dI) vwCl [(h0, .inr (3, [.int 0, .null, .null, .null, .null, .int 0, .int 0, .int 0, .null])), (m1, .inl (cI, 48, .inl z0))] H := hP
  have hD : va_D A [(h0, .inr (3, [.int 0, .null, .null, .null, .null, .int 0, .int 0, .int 0, .null])), (m1, .inl (cI, 48, .inl z0))] := hD
  refine W.widen (k := 1) (n := 48) (by decide) (by decide) ?_
  refine va_putF (D := (dC, dI)) (ci := 3) (v := .ref m1) (ty := .array .int) (C := RX3) (T := TX3) (N := 9) hx hb hts (fun w h => mc (inX3 w h)) tyX3 tyX3_ok nmX3 hown hK hP hD hS 0 rfl rfl 1 (by decide) (hts _ (mc q_243)) (fun _ h9 => h9) rfl hin rfl (by decide +kernel) rfl rfl (Nat.le_of_ble_eq_true rfl) dX3_init_9 (fun H locs hP hD hS => ?_)
  have hP : va_P (dC, dI) vwCl [(h0, .inr (3, [.int 0, .ref m1, .null, .null, .null, .int 0, .int 0, .int 0, .null])), (m1, .inl (cI, 48, .inl z0))] H := hP
  have hD : va_D A [(h0, .inr (3, [.int 0, .ref m1, .null, .null, .null, .int 0, .int 0, .int 0, .null])), (m1, .inl (cI, 48, .inl z0))] := hD
  refine lv_aload_n hx hb dX3_init_12 rfl (lv_at hl 0 rfl) ?_
  refine lv_bipush (v := 48) hx hb dX3_init_13 (by decide) ?_
  refine rw_newa (N' := 48) hx hb (hts _ (mc q_33)) hK hP hD hS hA (by decide) (by decide) (by decide) (Nat.le_of_ble_eq_true rfl) (Nat.le_of_ble_eq_true rfl) dX3_init_15 (fun m2 H hP hD hS => ?_)
  have hP : va_P (dC, dI) vwCl [(h0, .inr (3, [.int 0, .ref m1, .null, .null, .null, .int 0, .int 0, .int 0, .null])), (m1, .inl (cI, 48, .inl z0)), (m2, .inl (cI, 48, .inl z0))] H := hP
  have hD : va_D A [(h0, .inr (3, [.int 0, .ref m1, .null, .null, .null, .int 0, .int 0, .int 0, .null])), (m1, .inl (cI, 48, .inl z0)), (m2, .inl (cI, 48, .inl z0))] := hD
  refine W.widen (k := 2) (n := 96) (by decide) (by decide) ?_
  refine va_putF (D := (dC, dI)) (ci := 3) (v := .ref m2) (ty := .array .int) (C := RX3) (T := TX3) (N := 9) hx hb hts (fun w h => mc (inX3 w h)) tyX3 tyX3_ok nmX3 hown hK hP hD hS 0 rfl rfl 2 (by decide) (hts _ (mc q_244)) (fun _ h9 => h9) rfl hin rfl (by decide +kernel) rfl rfl (Nat.le_of_ble_eq_true rfl) dX3_init_17 (fun H locs hP hD hS => ?_)
  have hP : va_P (dC, dI) vwCl [(h0, .inr (3, [.int 0, .ref m1, .ref m2, .null, .null, .int 0, .int 0, .int 0, .null])), (m1, .inl (cI, 48, .inl z0)), (m2, .inl (cI, 48, .inl z0))] H := hP
  have hD : va_D A [(h0, .inr (3, [.int 0, .ref m1, .ref m2, .null, .null, .int 0, .int 0, .int 0, .null])), (m1, .inl (cI, 48, .inl z0)), (m2, .inl (cI, 48, .inl z0))] := hD
  refine lv_aload_n hx hb dX3_init_20 rfl (lv_at hl 0 rfl) ?_
  refine lv_sipush (v := 384) hx hb dX3_init_21 (by decide) ?_
  refine rw_newa (N' := 384) hx hb (hts _ (mc q_33)) hK hP hD hS hA (by decide) (by decide) (by decide) (Nat.le_of_ble_eq_true rfl) (Nat.le_of_ble_eq_true rfl) dX3_init_24 (fun m3 H hP hD hS => ?_)
  have hP : va_P (dC, dI) vwCl [(h0, .inr (3, [.int 0, .ref m1, .ref m2, .null, .null, .int 0, .int 0, .int 0, .null])), (m1, .inl (cI, 48, .inl z0)), (m2, .inl (cI, 48, .inl z0)), (m3, .inl (cI, 384, .inl z0))] H := hP
  have hD : va_D A [(h0, .inr (3, [.int 0, .ref m1, .ref m2, .null, .null, .int 0, .int 0, .int 0, .null])), (m1, .inl (cI, 48, .inl z0)), (m2, .inl (cI, 48, .inl z0)), (m3, .inl (cI, 384, .inl z0))] := hD
  refine W.widen (k := 3) (n := 480) (by decide) (by decide) ?_
  refine va_putF (D := (dC, dI)) (ci := 3) (v := .ref m3) (ty := .array .int) (C := RX3) (T := TX3) (N := 9) hx hb hts (fun w h => mc (inX3 w h)) tyX3 tyX3_ok nmX3 hown hK hP hD hS 0 rfl rfl 3 (by decide) (hts _ (mc q_245)) (fun _ h9 => h9) rfl hin rfl (by decide +kernel) rfl rfl (Nat.le_of_ble_eq_true rfl) dX3_init_26 (fun H locs hP hD hS => ?_)
  have hP : va_P (dC, dI) vwCl [(h0, .inr (3, [.int 0, .ref m1, .ref m2, .ref m3, .null, .int 0, .int 0, .int 0, .null])), (m1, .inl (cI, 48, .inl z0)), (m2, .inl (cI, 48, .inl z0)), (m3, .inl (cI, 384, .inl z0))] H := hP
  have hD : va_D A [(h0, .inr (3, [.int 0, .ref m1, .ref m2, .ref m3, .null, .int 0, .int 0, .int 0, .null])), (m1, .inl (cI, 48, .inl z0)), (m2, .inl (cI, 48, .inl z0)), (m3, .inl (cI, 384, .inl z0))] := hD
  refine lv_aload_n hx hb dX3_init_29 rfl (lv_at hl 0 rfl) ?_
  refine lv_sipush (v := 1536) hx hb dX3_init_30 (by decide) ?_
  refine rw_newa (N' := 1536) hx hb (hts _ (mc q_33)) hK hP hD hS hA (by decide) (by decide) (by decide) (Nat.le_of_ble_eq_true rfl) (Nat.le_of_ble_eq_true rfl) dX3_init_33 (fun m4 H hP hD hS => ?_)
  have hP : va_P (dC, dI) vwCl [(h0, .inr (3, [.int 0, .ref m1, .ref m2, .ref m3, .null, .int 0, .int 0, .int 0, .null])), (m1, .inl (cI, 48, .inl z0)), (m2, .inl (cI, 48, .inl z0)), (m3, .inl (cI, 384, .inl z0)), (m4, .inl (cI, 1536, .inl z0))] H := hP
  have hD : va_D A [(h0, .inr (3, [.int 0, .ref m1, .ref m2, .ref m3, .null, .int 0, .int 0, .int 0, .null])), (m1, .inl (cI, 48, .inl z0)), (m2, .inl (cI, 48, .inl z0)), (m3, .inl (cI, 384, .inl z0)), (m4, .inl (cI, 1536, .inl z0))] := hD
  refine W.widen (k := 4) (n := 2016) (by decide) (by decide) ?_
  refine va_putF (D := (dC, dI)) (ci := 3) (v := .ref m4) (ty := .array .int) (C := RX3) (T := TX3) (N := 9) hx hb hts (fun w h => mc (inX3 w h)) tyX3 tyX3_ok nmX3 hown hK hP hD hS 0 rfl rfl 4 (by decide) (hts _ (mc q_246)) (fun _ h9 => h9) rfl hin rfl (by decide +kernel) rfl rfl (Nat.le_of_ble_eq_true rfl) dX3_init_35 (fun H locs hP hD hS => ?_)
  have hP : va_P (dC, dI) vwCl [(h0, .inr (3, [.int 0, .ref m1, .ref m2, .ref m3, .ref m4, .int 0, .int 0, .int 0, .null])), (m1, .inl (cI, 48, .inl z0)), (m2, .inl (cI, 48, .inl z0)), (m3, .inl (cI, 384, .inl z0)), (m4, .inl (cI, 1536, .inl z0))] H := hP
  have hD : va_D A [(h0, .inr (3, [.int 0, .ref m1, .ref m2, .ref m3, .ref m4, .int 0, .int 0, .int 0, .null])), (m1, .inl (cI, 48, .inl z0)), (m2, .inl (cI, 48, .inl z0)), (m3, .inl (cI, 384, .inl z0)), (m4, .inl (cI, 1536, .inl z0))] := hD
  refine lv_aload_n hx hb dX3_init_38 rfl (lv_at hl 0 rfl) ?_
  refine lv_iconst (v := 1) hx hb dX3_init_39 (by decide) ?_
  refine va_put (D := (dC, dI)) (ci := 3) (v := .int 1) (ty := .int) (C := RX3) (T := TX3) (N := 9) hx hb hts (fun w h => mc (inX3 w h)) tyX3 tyX3_ok nmX3 hown hK hP hD hS 0 rfl rfl 5 (by decide) (hts _ (mc q_247)) (fun _ h9 => h9) rfl (by decide +kernel) rfl rfl (Nat.le_of_ble_eq_true rfl) dX3_init_40 (fun H locs hP hD hS => ?_)
  have hP : va_P (dC, dI) vwCl [(h0, .inr (3, [.int 0, .ref m1, .ref m2, .ref m3, .ref m4, .int 1, .int 0, .int 0, .null])), (m1, .inl (cI, 48, .inl z0)), (m2, .inl (cI, 48, .inl z0)), (m3, .inl (cI, 384, .inl z0)), (m4, .inl (cI, 1536, .inl z0))] H := hP
  have hD : va_D A [(h0, .inr (3, [.int 0, .ref m1, .ref m2, .ref m3, .ref m4, .int 1, .int 0, .int 0, .null])), (m1, .inl (cI, 48, .inl z0)), (m2, .inl (cI, 48, .inl z0)), (m3, .inl (cI, 384, .inl z0)), (m4, .inl (cI, 1536, .inl z0))] := hD
  refine lv_aload_n hx hb dX3_init_43 rfl (lv_at hl 0 rfl) ?_
  refine lv_sipush (v := 200) hx hb dX3_init_44 (by decide) ?_
  refine rw_newa (N' := 200) hx hb (hts _ (mc q_33)) hK hP hD hS hA (by decide) (by decide) (by decide) (Nat.le_of_ble_eq_true rfl) (Nat.le_of_ble_eq_true rfl) dX3_init_47 (fun m5 H hP hD hS => ?_)
  have hP : va_P (dC, dI) vwCl [(h0, .inr (3, [.int 0, .ref m1, .ref m2, .ref m3, .ref m4, .int 1, .int 0, .int 0, .null])), (m1, .inl (cI, 48, .inl z0)), (m2, .inl (cI, 48, .inl z0)), (m3, .inl (cI, 384, .inl z0)), (m4, .inl (cI, 1536, .inl z0)), (m5, .inl (cI, 200, .inl z0))] H := hP
  have hD : va_D A [(h0, .inr (3, [.int 0, .ref m1, .ref m2, .ref m3, .ref m4, .int 1, .int 0, .int 0, .null])), (m1, .inl (cI, 48, .inl z0)), (m2, .inl (cI, 48, .inl z0)), (m3, .inl (cI, 384, .inl z0)), (m4, .inl (cI, 1536, .inl z0)), (m5, .inl (cI, 200, .inl z0))] := hD
  refine W.widen (k := 5) (n := 2216) (by decide) (by decide) ?_
  refine va_putF (D := (dC, dI)) (ci := 3) (v := .ref m5) (ty := .array .int) (C := RX3) (T := TX3) (N := 9) hx hb hts (fun w h => mc (inX3 w h)) tyX3 tyX3_ok nmX3 hown hK hP hD hS 0 rfl rfl 8 (by decide) (hts _ (mc q_250)) (fun _ h9 => h9) rfl hin rfl (by decide +kernel) rfl rfl (Nat.le_of_ble_eq_true rfl) dX3_init_49 (fun H locs hP hD hS => ?_)
  have hP : va_P (dC, dI) vwCl [(h0, .inr (3, [.int 0, .ref m1, .ref m2, .ref m3, .ref m4, .int 1, .int 0, .int 0, .ref m5])), (m1, .inl (cI, 48, .inl z0)), (m2, .inl (cI, 48, .inl z0)), (m3, .inl (cI, 384, .inl z0)), (m4, .inl (cI, 1536, .inl z0)), (m5, .inl (cI, 200, .inl z0))] H := hP
  have hD : va_D A [(h0, .inr (3, [.int 0, .ref m1, .ref m2, .ref m3, .ref m4, .int 1, .int 0, .int 0, .ref m5])), (m1, .inl (cI, 48, .inl z0)), (m2, .inl (cI, 48, .inl z0)), (m3, .inl (cI, 384, .inl z0)), (m4, .inl (cI, 1536, .inl z0)), (m5, .inl (cI, 200, .inl z0))] := hD
  have tail : ∀ z : Int32, z = clM x1 → W p l e ({ frames := 1, cells := 5, slots := 2216, locals := 23 } : Room) s m ([Value.ref h0, Value.int x1] : List Value).toArray below meth c H locs 5 2216 (MQ below (qV (fun H => ∃ m1 m2 m3 m4 m5 : Nat, va_P (dC, dI) vwCl (wX3 cI h0 m1 m2 m3 m4 m5 (limM x1) 1 0 0 kd0 sz00 ct0 en0 z0) H ∧ va_D A (wX3 cI h0 m1 m2 m3 m4 m5 (limM x1) 1 0 0 kd0 sz00 ct0 en0 z0)) A) ([Value.ref h0, Value.int x1] : List Value).toArray s 5 2216 A) (F0 m 73 ls [.int z]) := by
    intro z ez
    refine lv_istore_n (lv' := [(2, .int z), (0, .ref h0), (1, .int x1)]) hx hb dX3_init_73 rfl hl (by decide) rfl (fun ls hl => ?_)
    refine lv_aload_n hx hb dX3_init_74 rfl (lv_at hl 1 rfl) ?_
    refine lv_bipush (v := 8) hx hb dX3_init_75 (by decide) ?_
    refine lv_iload_n hx hb dX3_init_77 rfl (lv_at hl 0 rfl) ?_
    refine lv_iconst (v := 2) hx hb dX3_init_78 (by decide) ?_
    refine lv_isub hx hb dX3_init_79 ?_
    refine lv_imul hx hb dX3_init_80 ?_
    refine rw_nm (y := limM x1) (by rw [ez]; rfl) ?_
    refine va_putF (D := (dC, dI)) (ci := 3) (v := .int (limM x1)) (ty := .int) (C := RX3) (T := TX3) (N := 9) hx hb hts (fun w h => mc (inX3 w h)) tyX3 tyX3_ok nmX3 hown hK hP hD hS 0 rfl rfl 0 (by decide) (hts _ (mc q_242)) (fun _ h9 => h9) rfl hin rfl (by decide +kernel) rfl rfl (Nat.le_of_ble_eq_true rfl) dX3_init_81 (fun H locs hP hD hS => ?_)
    have hP : va_P (dC, dI) vwCl (wX3 cI h0 m1 m2 m3 m4 m5 (limM x1) 1 0 0 z0 z0 z0 (em 0) z0) H := by rw [em_0]; exact hP
    have hD : va_D A (wX3 cI h0 m1 m2 m3 m4 m5 (limM x1) 1 0 0 z0 z0 z0 (em 0) z0) := by rw [em_0]; exact hD
    refine lv_iconst (v := 0) hx hb dX3_init_84 (by decide) ?_
    refine lv_istore_n (lv' := [(3, .int 0), (2, .int z), (0, .ref h0), (1, .int x1)]) hx hb dX3_init_85 rfl hl (by decide) rfl (fun ls hl => ?_)
    refine cX3_init_loop hx hb hown hts hK h0 m1 m2 m3 m4 m5 x1 (fun H locs ls hP hD hS hl => ?_) 1536 0 H locs ls rfl hP hD hS (lv_sub hl [0, 2] rfl)
    refine lv_aload_n hx hb dX3_init_106 rfl (lv_at hl 1 rfl) ?_
    refine va_get (D := (dC, dI)) (ci := 3) (v := .ref m1) (C := RX3) (T := TX3) (N := 9) hx hb hts (fun w h => mc (inX3 w h)) hown hK hP 0 rfl rfl 1 (by decide) (hts _ (mc q_243)) (fun _ h9 => h9) rfl dX3_init_107 ?_
    refine lv_iconst (v := 0) hx hb dX3_init_110 (by decide) ?_
    refine lv_iconst (v := 2) hx hb dX3_init_111 (by decide) ?_
    refine rw_ast (g := upd z0 0 2) (ws' := (wX3 cI h0 m1 m2 m3 m4 m5 (limM x1) 1 0 0 (upd z0 0 2) z0 z0 (em 1536) z0)) hx hb hK hP hD hS 1 0 rfl rfl (by unfold vp_in; decide) rfl rfl dX3_init_112 (fun H locs hP hD hS => ?_)
    refine lv_aload_n hx hb dX3_init_113 rfl (lv_at hl 1 rfl) ?_
    refine lv_iconst (v := 0) hx hb dX3_init_114 (by decide) ?_
    refine lv_iconst (v := 1) hx hb dX3_init_115 (by decide) ?_
    refine callVv (w1 := (wX3 cI h0 m1 m2 m3 m4 m5 (limM x1) 1 0 0 kd0 sz00 ct0 en0 z0)) (va_runV (As := [.int 0, .int 1]) (rest := []) ⟨hx, hb, hml, hown, hts⟩ (cX3_copy_met l dC dI cI h0 m1 m2 m3 m4 m5 (limM x1) 1 0 0 (upd z0 0 2) z0 z0 (em 1536) z0 0 1 kd0 sz00 ct0 en0 (copy01 (upd z0 0 2) z0 z0 (em 1536))) (cwV 2 hts (gIn (memV q_239 q_240 q_349 q_5 q_241)) rfl rfl rfl (by decide +kernel) ⟨(Nat.le_of_ble_eq_true rfl), (Nat.le_of_ble_eq_true rfl)⟩) (preWV (ci := 3) (q0 := 0) hK hP hD rfl rfl) rfl rfl hl.1 rfl (lv_room (Nat.le_of_ble_eq_true rfl)) dX3_init_116 ⟨(Nat.le_of_ble_eq_true rfl), (Nat.le_of_ble_eq_true rfl)⟩) hS hD rfl rfl (fun H locs hP hD hS => ?_)
    exact retV hx hb hr hlocks ⟨m1, m2, m3, m4, m5, hP, hD⟩ hS dX3_init_119
  refine lv_iload_n hx hb dX3_init_52 rfl (lv_at hl 1 rfl) ?_
  refine lv_iconst (v := 4) hx hb dX3_init_53 (by decide) ?_
  refine lv_icmp_ge (tgt := 61) hx hb dX3_init_54 (by decide) (fun q1 => ?_) (fun q1 => ?_)
  · refine lv_iload_n hx hb dX3_init_61 rfl (lv_at hl 1 rfl) ?_
    refine lv_bipush (v := 8) hx hb dX3_init_62 (by decide) ?_
    refine lv_icmp_le (tgt := 72) hx hb dX3_init_64 (by decide) (fun q2 => ?_) (fun q2 => ?_)
    · refine lv_iload_n hx hb dX3_init_72 rfl (lv_at hl 1 rfl) ?_
      exact tail x1 (by unfold clM; rw [if_pos q1, if_pos q2])
    · refine lv_bipush (v := 8) hx hb dX3_init_67 (by decide) ?_
      refine lv_goto (tgt := 73) hx hb dX3_init_69 (by decide) ?_
      exact tail 8 (by unfold clM; rw [if_pos q1, if_neg q2])
  · refine lv_iconst (v := 4) hx hb dX3_init_57 (by decide) ?_
    refine lv_goto (tgt := 73) hx hb dX3_init_58 (by decide) ?_
    exact tail 4 (by unfold clM; rw [if_neg q1])
