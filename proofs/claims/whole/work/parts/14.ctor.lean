/-! arrays made here all have the class of "[I" -/
abbrev z0 : Nat → Int32 := fun _ => 0
theorem arrK {D : va_G} {cl : List vw_C} {s : State} {args : Array Value} (hK : va_K D cl [] s) (h : (Cond.arrayClass .int).before args s = true) : ∃ cI : ClassId, va_K D cl [(cI, .int)] s := by
  obtain ⟨cA, kA, comp, h1, h2, h3⟩ := Cond.arrayClass_spec h
  refine ⟨cA, hK.1, fun k q hk => ?_⟩
  match k, hk with
  | 0, hk => cases hk; exact ⟨fun n z => ⟨fun k h => (by cases h), kA, h2, comp, h3⟩, h1⟩
  | k + 1, hk => simp at hk
theorem sameI {D : va_G} {cl : List vw_C} {s : State} {cI cA : ClassId} (hK : va_K D cl ([(cI, .int)] ++ [(cA, .int)]) s) : cA = cI := by
  have h0 := (hK.2 0 (cI, .int) rfl).2
  have h1 := (hK.2 1 (cA, .int) rfl).2
  exact Option.some.inj (h1.symm.trans h0)
def pcN (av : List Value) (D : va_G) (cl : List vw_C) (tys : List (ClassId × FieldType)) (ws : va_W) (sz : Nat) : Array Value → State → Prop := va_Pc av (fun U => U.heap.size = sz ∧ va_P D cl ws U.heap ∧ va_K D cl tys U ∧ va_D (fun _ => True) ws)
theorem pcN_blind {av : List Value} {D : va_G} {cl : List vw_C} {tys : List (ClassId × FieldType)} {ws : va_W} {sz : Nat} : FrameBlind (pcN av D cl tys ws sz) := fun a U g mk q => by
  obtain ⟨q0, q1, qP, qK, qD⟩ := q
  exact ⟨q0, q1, qP, va_K.moved (u := U) (U := U.calling g mk a) (Vm.Alike.refl U.vm) qK, qD⟩
theorem preNI {s : State} {H : Heap} {D : va_G} {cl : List vw_C} {tys : List (ClassId × FieldType)} {ws : va_W} {As : List Value} {A : Nat → Prop} (hK : va_K D cl tys s) (hP : va_P D cl ws H) (hD : va_D A ws) : PreS s H (pcN As D cl tys ws H.size) As :=
  ⟨pcN_blind, fun U hU hW => ⟨rfl, by rw [hU], by rw [hU]; exact hP, va_K.moved hW.alike hK, hD.weaken (fun _ _ _ _ => trivial)⟩⟩
section NEWA
variable {p : Program} {l : Launch} {e : Env} {R : Room} {s : State} {m : MethodId} {args : Array Value} {below : List Frame} {meth : Method} {c : Code} {H : Heap} {locs : List Loc} {cells slots : Nat} {Q : State → Prop}
variable {cc : ByteArray} {pc : Nat} {ls : Array Slot} {rest : List Value} {D : va_G} {cl : List vw_C} {A : Nat → Prop} {ws : va_W} {H0 : Heap} {cI : ClassId}
theorem rw_newa (hexec : p.tables.exec = Jvm.exec) (hb : c.code = cc) (harr : (Cond.arrayClass .int).before args s = true) (hK : va_K D cl [(cI, .int)] s) (hP : va_P D cl ws H) (hD : va_D A ws) (hS : va_S A H0 H locs) (hA : ∀ q, H0.size ≤ q → A q)
    {n : Int32} {N' : Nat} (hn : ¬ n < 0) (hN : n.toNatClampNeg = N') (hbytes : N' * componentBytes .int ≤ 536870912) (hcells : cells + 1 ≤ R.cells) (hslots : slots + N' ≤ R.slots) (hdg : decode cc pc = .ok (.newarray .int, 2))
    (kk : ∀ (q : Nat) (H1 : Heap), va_P D cl (ws ++ [(q, .inl (cI, N', .inl z0))]) H1 → va_D A (ws ++ [(q, .inl (cI, N', .inl z0))]) → va_S A H0 H1 locs →
      W p l e R s m args below meth c H1 locs (cells + 1) (slots + N') Q (F0 m (pc + 2) ls (.ref q :: rest))) : W p l e R s m args below meth c H locs cells slots Q (F0 m pc ls (.int n :: rest)) := by
  refine va_newa (atype := .int) (ty := .int) (a0 := (N', .inl z0)) hexec hb harr rfl hK hP hD hS hA (fun cA => by rw [vp_cell_i]; rfl) hn hN hbytes hcells hslots hdg (fun q cA H1 hK2 hP2 hD2 hS2 => ?_)
  have h := sameI hK2
  subst h
  exact kk q H1 hP2 hD2 hS2
end NEWA
set_option maxHeartbeats 4000000 in
set_option maxRecDepth 100000 in
theorem cX1_init_met (l : Launch) (dC : Nat → ClassId) (dI : Nat → Nat → Nat) (cI : ClassId) (h0 sz : Nat) : Met l yX1_init wsX1_init ({ frames := 1, cells := 6, slots := 704, locals := 12 } : Room) (pcN [.ref h0] (dC, dI) vwCl [(cI, .int)] [(h0, .inr (1, [.null, .null, .null, .null, .null, .null]))] sz) (qV (fun H => ∃ a1 a2 a3 a4 a5 a6 : Nat, va_P (dC, dI) vwCl (wX1 cI h0 a1 a2 a3 a4 a5 a6 (upd z0 0 2) z0 z0 z0 z0 z0) H ∧ va_D (va_A [(h0, .inr (1, [.null, .null, .null, .null, .null, .null]))] sz) (wX1 cI h0 a1 a2 a3 a4 a5 a6 (upd z0 0 2) z0 z0 z0 z0 z0)) (va_A [(h0, .inr (1, [.null, .null, .null, .null, .null, .null]))] sz)) 6 704 (va_A [(h0, .inr (1, [.null, .null, .null, .null, .null, .null]))] sz) := by
  refine Met.ofW (cc := cX1_init) (maxL := 1) (ret := none) (by decide) rfl ?_
  intro p e s m args below meth c s₁ B hml hv
  obtain ⟨rfl, hsz, hP, hK, hD0⟩ := hv
  have hx := B.exec
  have hb := B.bytes
  have hr := B.returns
  have hts := atoms_spec (ws := wsX1_init) B.pre
  have hown : s.vm.findClass RX1 = some m.cls := findClass_of_methodNamed B.named
  have hlocks := B.notSynchronized
  have hin : meth.name = "<init>" := (name_of_methodNamed B.named B.method).1
  subst hsz
  have hD := hD0.self (sz := s.heap.size)
  generalize hAe : va_A [(h0, .inr (1, [.null, .null, .null, .null, .null, .null]))] s.heap.size = A at hD ⊢
  have hA : ∀ q : Nat, s.heap.size ≤ q → A q := fun q h => by rw [← hAe]; exact Or.inr h
  have hS : va_S A s.heap s.heap [] := va_S.rf
  have hP : va_P (dC, dI) vwCl [(h0, .inr (1, [.null, .null, .null, .null, .null, .null]))] s.heap := hP
  have hl := lv_entry ([.ref h0]) (n := 1) (Nat.le_of_ble_eq_true rfl)
  rw [lg_entry_eq]
  generalize (lg_sl ([.ref h0]) ++ List.replicate (1 - (lg_sl ([.ref h0])).length) Slot.unset).toArray = ls at hl ⊢
  have hl : lv_has ls 1 [(0, .ref h0)] := hl
  refine lv_aload_n hx hb dX1_init_0 rfl (lv_at hl 0 rfl) ?_
  refine W.objInit hx hb hown (hts _ (mc q_26)) (hts _ (mc q_13)) (hts _ (mc q_14)) rfl (by rw [hml]; exact hl.1) rfl dX1_init_1 (Nat.le_of_ble_eq_true rfl) (Nat.le_of_ble_eq_true rfl) ?_
  refine W.eq (g2 := F0 m 4 ls []) rfl ?_
  refine lv_aload_n hx hb dX1_init_4 rfl (lv_at hl 0 rfl) ?_
  refine lv_bipush (v := 16) hx hb dX1_init_5 (by decide) ?_
  refine rw_newa (N' := 16) hx hb (hts _ (mc q_33)) hK hP hD hS hA (by decide) (by decide) (by decide) (Nat.le_of_ble_eq_true rfl) (Nat.le_of_ble_eq_true rfl) dX1_init_7 (fun a1 H hP hD hS => ?_)
  have hP : va_P (dC, dI) vwCl [(h0, .inr (1, [.null, .null, .null, .null, .null, .null])), (a1, .inl (cI, 16, .inl z0))] H := hP
  have hD : va_D A [(h0, .inr (1, [.null, .null, .null, .null, .null, .null])), (a1, .inl (cI, 16, .inl z0))] := hD
  refine W.widen (k := 1) (n := 16) (by decide) (by decide) ?_
  refine va_putF (D := (dC, dI)) (ci := 1) (v := .ref a1) (ty := .array .int) (C := RX1) (T := TX1) (N := 6) hx hb hts (fun w h => mc (inX1 w h)) tyX1 tyX1_ok nmX1 hown hK hP hD hS 0 rfl rfl 0 (by decide) (hts _ (mc q_27)) (fun _ h9 => h9) rfl hin rfl (by decide +kernel) rfl rfl (Nat.le_of_ble_eq_true rfl) dX1_init_9 (fun H locs hP hD hS => ?_)
  have hP : va_P (dC, dI) vwCl [(h0, .inr (1, [.ref a1, .null, .null, .null, .null, .null])), (a1, .inl (cI, 16, .inl z0))] H := hP
  have hD : va_D A [(h0, .inr (1, [.ref a1, .null, .null, .null, .null, .null])), (a1, .inl (cI, 16, .inl z0))] := hD
  refine lv_aload_n hx hb dX1_init_12 rfl (lv_at hl 0 rfl) ?_
  refine lv_bipush (v := 16) hx hb dX1_init_13 (by decide) ?_
  refine rw_newa (N' := 16) hx hb (hts _ (mc q_33)) hK hP hD hS hA (by decide) (by decide) (by decide) (Nat.le_of_ble_eq_true rfl) (Nat.le_of_ble_eq_true rfl) dX1_init_15 (fun a2 H hP hD hS => ?_)
  have hP : va_P (dC, dI) vwCl [(h0, .inr (1, [.ref a1, .null, .null, .null, .null, .null])), (a1, .inl (cI, 16, .inl z0)), (a2, .inl (cI, 16, .inl z0))] H := hP
  have hD : va_D A [(h0, .inr (1, [.ref a1, .null, .null, .null, .null, .null])), (a1, .inl (cI, 16, .inl z0)), (a2, .inl (cI, 16, .inl z0))] := hD
  refine W.widen (k := 2) (n := 32) (by decide) (by decide) ?_
  refine va_putF (D := (dC, dI)) (ci := 1) (v := .ref a2) (ty := .array .int) (C := RX1) (T := TX1) (N := 6) hx hb hts (fun w h => mc (inX1 w h)) tyX1 tyX1_ok nmX1 hown hK hP hD hS 0 rfl rfl 1 (by decide) (hts _ (mc q_28)) (fun _ h9 => h9) rfl hin rfl (by decide +kernel) rfl rfl (Nat.le_of_ble_eq_true rfl) dX1_init_17 (fun H locs hP hD hS => ?_)
  have hP : va_P (dC, dI) vwCl [(h0, .inr (1, [.ref a1, .ref a2, .null, .null, .null, .null])), (a1, .inl (cI, 16, .inl z0)), (a2, .inl (cI, 16, .inl z0))] H := hP
  have hD : va_D A [(h0, .inr (1, [.ref a1, .ref a2, .null, .null, .null, .null])), (a1, .inl (cI, 16, .inl z0)), (a2, .inl (cI, 16, .inl z0))] := hD
  refine lv_aload_n hx hb dX1_init_20 rfl (lv_at hl 0 rfl) ?_
  refine lv_bipush (v := 16) hx hb dX1_init_21 (by decide) ?_
  refine rw_newa (N' := 16) hx hb (hts _ (mc q_33)) hK hP hD hS hA (by decide) (by decide) (by decide) (Nat.le_of_ble_eq_true rfl) (Nat.le_of_ble_eq_true rfl) dX1_init_23 (fun a3 H hP hD hS => ?_)
  have hP : va_P (dC, dI) vwCl [(h0, .inr (1, [.ref a1, .ref a2, .null, .null, .null, .null])), (a1, .inl (cI, 16, .inl z0)), (a2, .inl (cI, 16, .inl z0)), (a3, .inl (cI, 16, .inl z0))] H := hP
  have hD : va_D A [(h0, .inr (1, [.ref a1, .ref a2, .null, .null, .null, .null])), (a1, .inl (cI, 16, .inl z0)), (a2, .inl (cI, 16, .inl z0)), (a3, .inl (cI, 16, .inl z0))] := hD
  refine W.widen (k := 3) (n := 48) (by decide) (by decide) ?_
  refine va_putF (D := (dC, dI)) (ci := 1) (v := .ref a3) (ty := .array .int) (C := RX1) (T := TX1) (N := 6) hx hb hts (fun w h => mc (inX1 w h)) tyX1 tyX1_ok nmX1 hown hK hP hD hS 0 rfl rfl 2 (by decide) (hts _ (mc q_29)) (fun _ h9 => h9) rfl hin rfl (by decide +kernel) rfl rfl (Nat.le_of_ble_eq_true rfl) dX1_init_25 (fun H locs hP hD hS => ?_)
  have hP : va_P (dC, dI) vwCl [(h0, .inr (1, [.ref a1, .ref a2, .ref a3, .null, .null, .null])), (a1, .inl (cI, 16, .inl z0)), (a2, .inl (cI, 16, .inl z0)), (a3, .inl (cI, 16, .inl z0))] H := hP
  have hD : va_D A [(h0, .inr (1, [.ref a1, .ref a2, .ref a3, .null, .null, .null])), (a1, .inl (cI, 16, .inl z0)), (a2, .inl (cI, 16, .inl z0)), (a3, .inl (cI, 16, .inl z0))] := hD
  refine lv_aload_n hx hb dX1_init_28 rfl (lv_at hl 0 rfl) ?_
  refine lv_bipush (v := 16) hx hb dX1_init_29 (by decide) ?_
  refine rw_newa (N' := 16) hx hb (hts _ (mc q_33)) hK hP hD hS hA (by decide) (by decide) (by decide) (Nat.le_of_ble_eq_true rfl) (Nat.le_of_ble_eq_true rfl) dX1_init_31 (fun a4 H hP hD hS => ?_)
  have hP : va_P (dC, dI) vwCl [(h0, .inr (1, [.ref a1, .ref a2, .ref a3, .null, .null, .null])), (a1, .inl (cI, 16, .inl z0)), (a2, .inl (cI, 16, .inl z0)), (a3, .inl (cI, 16, .inl z0)), (a4, .inl (cI, 16, .inl z0))] H := hP
  have hD : va_D A [(h0, .inr (1, [.ref a1, .ref a2, .ref a3, .null, .null, .null])), (a1, .inl (cI, 16, .inl z0)), (a2, .inl (cI, 16, .inl z0)), (a3, .inl (cI, 16, .inl z0)), (a4, .inl (cI, 16, .inl z0))] := hD
  refine W.widen (k := 4) (n := 64) (by decide) (by decide) ?_
  refine va_putF (D := (dC, dI)) (ci := 1) (v := .ref a4) (ty := .array .int) (C := RX1) (T := TX1) (N := 6) hx hb hts (fun w h => mc (inX1 w h)) tyX1 tyX1_ok nmX1 hown hK hP hD hS 0 rfl rfl 3 (by decide) (hts _ (mc q_30)) (fun _ h9 => h9) rfl hin rfl (by decide +kernel) rfl rfl (Nat.le_of_ble_eq_true rfl) dX1_init_33 (fun H locs hP hD hS => ?_)
  have hP : va_P (dC, dI) vwCl [(h0, .inr (1, [.ref a1, .ref a2, .ref a3, .ref a4, .null, .null])), (a1, .inl (cI, 16, .inl z0)), (a2, .inl (cI, 16, .inl z0)), (a3, .inl (cI, 16, .inl z0)), (a4, .inl (cI, 16, .inl z0))] H := hP
  have hD : va_D A [(h0, .inr (1, [.ref a1, .ref a2, .ref a3, .ref a4, .null, .null])), (a1, .inl (cI, 16, .inl z0)), (a2, .inl (cI, 16, .inl z0)), (a3, .inl (cI, 16, .inl z0)), (a4, .inl (cI, 16, .inl z0))] := hD
  refine lv_aload_n hx hb dX1_init_36 rfl (lv_at hl 0 rfl) ?_
  refine lv_sipush (v := 512) hx hb dX1_init_37 (by decide) ?_
  refine rw_newa (N' := 512) hx hb (hts _ (mc q_33)) hK hP hD hS hA (by decide) (by decide) (by decide) (Nat.le_of_ble_eq_true rfl) (Nat.le_of_ble_eq_true rfl) dX1_init_40 (fun a5 H hP hD hS => ?_)
  have hP : va_P (dC, dI) vwCl [(h0, .inr (1, [.ref a1, .ref a2, .ref a3, .ref a4, .null, .null])), (a1, .inl (cI, 16, .inl z0)), (a2, .inl (cI, 16, .inl z0)), (a3, .inl (cI, 16, .inl z0)), (a4, .inl (cI, 16, .inl z0)), (a5, .inl (cI, 512, .inl z0))] H := hP
  have hD : va_D A [(h0, .inr (1, [.ref a1, .ref a2, .ref a3, .ref a4, .null, .null])), (a1, .inl (cI, 16, .inl z0)), (a2, .inl (cI, 16, .inl z0)), (a3, .inl (cI, 16, .inl z0)), (a4, .inl (cI, 16, .inl z0)), (a5, .inl (cI, 512, .inl z0))] := hD
  refine W.widen (k := 5) (n := 576) (by decide) (by decide) ?_
  refine va_putF (D := (dC, dI)) (ci := 1) (v := .ref a5) (ty := .array .int) (C := RX1) (T := TX1) (N := 6) hx hb hts (fun w h => mc (inX1 w h)) tyX1 tyX1_ok nmX1 hown hK hP hD hS 0 rfl rfl 4 (by decide) (hts _ (mc q_31)) (fun _ h9 => h9) rfl hin rfl (by decide +kernel) rfl rfl (Nat.le_of_ble_eq_true rfl) dX1_init_42 (fun H locs hP hD hS => ?_)
  have hP : va_P (dC, dI) vwCl [(h0, .inr (1, [.ref a1, .ref a2, .ref a3, .ref a4, .ref a5, .null])), (a1, .inl (cI, 16, .inl z0)), (a2, .inl (cI, 16, .inl z0)), (a3, .inl (cI, 16, .inl z0)), (a4, .inl (cI, 16, .inl z0)), (a5, .inl (cI, 512, .inl z0))] H := hP
  have hD : va_D A [(h0, .inr (1, [.ref a1, .ref a2, .ref a3, .ref a4, .ref a5, .null])), (a1, .inl (cI, 16, .inl z0)), (a2, .inl (cI, 16, .inl z0)), (a3, .inl (cI, 16, .inl z0)), (a4, .inl (cI, 16, .inl z0)), (a5, .inl (cI, 512, .inl z0))] := hD
  refine lv_aload_n hx hb dX1_init_45 rfl (lv_at hl 0 rfl) ?_
  refine lv_sipush (v := 128) hx hb dX1_init_46 (by decide) ?_
  refine rw_newa (N' := 128) hx hb (hts _ (mc q_33)) hK hP hD hS hA (by decide) (by decide) (by decide) (Nat.le_of_ble_eq_true rfl) (Nat.le_of_ble_eq_true rfl) dX1_init_49 (fun a6 H hP hD hS => ?_)
  have hP : va_P (dC, dI) vwCl [(h0, .inr (1, [.ref a1, .ref a2, .ref a3, .ref a4, .ref a5, .null])), (a1, .inl (cI, 16, .inl z0)), (a2, .inl (cI, 16, .inl z0)), (a3, .inl (cI, 16, .inl z0)), (a4, .inl (cI, 16, .inl z0)), (a5, .inl (cI, 512, .inl z0)), (a6, .inl (cI, 128, .inl z0))] H := hP
  have hD : va_D A [(h0, .inr (1, [.ref a1, .ref a2, .ref a3, .ref a4, .ref a5, .null])), (a1, .inl (cI, 16, .inl z0)), (a2, .inl (cI, 16, .inl z0)), (a3, .inl (cI, 16, .inl z0)), (a4, .inl (cI, 16, .inl z0)), (a5, .inl (cI, 512, .inl z0)), (a6, .inl (cI, 128, .inl z0))] := hD
  refine W.widen (k := 6) (n := 704) (by decide) (by decide) ?_
  refine va_putF (D := (dC, dI)) (ci := 1) (v := .ref a6) (ty := .array .int) (C := RX1) (T := TX1) (N := 6) hx hb hts (fun w h => mc (inX1 w h)) tyX1 tyX1_ok nmX1 hown hK hP hD hS 0 rfl rfl 5 (by decide) (hts _ (mc q_32)) (fun _ h9 => h9) rfl hin rfl (by decide +kernel) rfl rfl (Nat.le_of_ble_eq_true rfl) dX1_init_51 (fun H locs hP hD hS => ?_)
  have hP : va_P (dC, dI) vwCl [(h0, .inr (1, [.ref a1, .ref a2, .ref a3, .ref a4, .ref a5, .ref a6])), (a1, .inl (cI, 16, .inl z0)), (a2, .inl (cI, 16, .inl z0)), (a3, .inl (cI, 16, .inl z0)), (a4, .inl (cI, 16, .inl z0)), (a5, .inl (cI, 512, .inl z0)), (a6, .inl (cI, 128, .inl z0))] H := hP
  have hD : va_D A [(h0, .inr (1, [.ref a1, .ref a2, .ref a3, .ref a4, .ref a5, .ref a6])), (a1, .inl (cI, 16, .inl z0)), (a2, .inl (cI, 16, .inl z0)), (a3, .inl (cI, 16, .inl z0)), (a4, .inl (cI, 16, .inl z0)), (a5, .inl (cI, 512, .inl z0)), (a6, .inl (cI, 128, .inl z0))] := hD
  refine lv_aload_n hx hb dX1_init_54 rfl (lv_at hl 0 rfl) ?_
  refine va_get (D := (dC, dI)) (ci := 1) (v := .ref a1) (C := RX1) (T := TX1) (N := 6) hx hb hts (fun w h => mc (inX1 w h)) hown hK hP 0 rfl rfl 0 (by decide) (hts _ (mc q_27)) (fun _ h9 => h9) rfl dX1_init_55 ?_
  refine lv_iconst (v := 0) hx hb dX1_init_58 (by decide) ?_
  refine lv_iconst (v := 2) hx hb dX1_init_59 (by decide) ?_
  refine rw_ast (g := upd z0 0 2) (ws' := (wX1 cI h0 a1 a2 a3 a4 a5 a6 (upd z0 0 2) z0 z0 z0 z0 z0)) hx hb hK hP hD hS 1 0 rfl rfl (by unfold vp_in; decide) rfl rfl dX1_init_60 (fun H locs hP hD hS => ?_)
  exact retV hx hb hr hlocks ⟨a1, a2, a3, a4, a5, a6, hP, hD⟩ hS dX1_init_61
set_option maxHeartbeats 4000000 in
set_option maxRecDepth 100000 in
theorem cX0_init_met (l : Launch) (dC : Nat → ClassId) (dI : Nat → Nat → Nat) (cI : ClassId) (h0 sz : Nat) : Met l yX0_init wsX0_init ({ frames := 1, cells := 1, slots := 240, locals := 12 } : Room) (pcN [.ref h0] (dC, dI) vwCl [(cI, .int)] [(h0, .inr (0, [.null, .int 0]))] sz) (qV (fun H => ∃ a1 : Nat, va_P (dC, dI) vwCl (wX0 cI h0 a1 0 z0) H ∧ va_D (va_A [(h0, .inr (0, [.null, .int 0]))] sz) (wX0 cI h0 a1 0 z0)) (va_A [(h0, .inr (0, [.null, .int 0]))] sz)) 1 240 (va_A [(h0, .inr (0, [.null, .int 0]))] sz) := by
  refine Met.ofW (cc := cX0_init) (maxL := 1) (ret := none) (by decide) rfl ?_
  intro p e s m args below meth c s₁ B hml hv
  obtain ⟨rfl, hsz, hP, hK, hD0⟩ := hv
  have hx := B.exec
  have hb := B.bytes
  have hr := B.returns
  have hts := atoms_spec (ws := wsX0_init) B.pre
  have hown : s.vm.findClass RX0 = some m.cls := findClass_of_methodNamed B.named
  have hlocks := B.notSynchronized
  have hin : meth.name = "<init>" := (name_of_methodNamed B.named B.method).1
  subst hsz
  have hD := hD0.self (sz := s.heap.size)
  generalize hAe : va_A [(h0, .inr (0, [.null, .int 0]))] s.heap.size = A at hD ⊢
  have hA : ∀ q : Nat, s.heap.size ≤ q → A q := fun q h => by rw [← hAe]; exact Or.inr h
  have hS : va_S A s.heap s.heap [] := va_S.rf
  have hP : va_P (dC, dI) vwCl [(h0, .inr (0, [.null, .int 0]))] s.heap := hP
  have hl := lv_entry ([.ref h0]) (n := 1) (Nat.le_of_ble_eq_true rfl)
  rw [lg_entry_eq]
  generalize (lg_sl ([.ref h0]) ++ List.replicate (1 - (lg_sl ([.ref h0])).length) Slot.unset).toArray = ls at hl ⊢
  have hl : lv_has ls 1 [(0, .ref h0)] := hl
  refine lv_aload_n hx hb dX0_init_0 rfl (lv_at hl 0 rfl) ?_
  refine W.objInit hx hb hown (hts _ (mc q_39)) (hts _ (mc q_13)) (hts _ (mc q_14)) rfl (by rw [hml]; exact hl.1) rfl dX0_init_1 (Nat.le_of_ble_eq_true rfl) (Nat.le_of_ble_eq_true rfl) ?_
  refine W.eq (g2 := F0 m 4 ls []) rfl ?_
  refine lv_aload_n hx hb dX0_init_4 rfl (lv_at hl 0 rfl) ?_
  refine lv_sipush (v := 240) hx hb dX0_init_5 (by decide) ?_
  refine rw_newa (N' := 240) hx hb (hts _ (mc q_33)) hK hP hD hS hA (by decide) (by decide) (by decide) (Nat.le_of_ble_eq_true rfl) (Nat.le_of_ble_eq_true rfl) dX0_init_8 (fun a1 H hP hD hS => ?_)
  have hP : va_P (dC, dI) vwCl [(h0, .inr (0, [.null, .int 0])), (a1, .inl (cI, 240, .inl z0))] H := hP
  have hD : va_D A [(h0, .inr (0, [.null, .int 0])), (a1, .inl (cI, 240, .inl z0))] := hD
  refine W.widen (k := 1) (n := 240) (by decide) (by decide) ?_
  refine va_putF (D := (dC, dI)) (ci := 0) (v := .ref a1) (ty := .array .int) (C := RX0) (T := TX0) (N := 2) hx hb hts (fun w h => mc (inX0 w h)) tyX0 tyX0_ok nmX0 hown hK hP hD hS 0 rfl rfl 0 (by decide) (hts _ (mc q_40)) (fun _ h9 => h9) rfl hin rfl (by decide +kernel) rfl rfl (Nat.le_of_ble_eq_true rfl) dX0_init_10 (fun H locs hP hD hS => ?_)
  have hP : va_P (dC, dI) vwCl [(h0, .inr (0, [.ref a1, .int 0])), (a1, .inl (cI, 240, .inl z0))] H := hP
  have hD : va_D A [(h0, .inr (0, [.ref a1, .int 0])), (a1, .inl (cI, 240, .inl z0))] := hD
  refine lv_aload_n hx hb dX0_init_13 rfl (lv_at hl 0 rfl) ?_
  refine lv_iconst (v := 0) hx hb dX0_init_14 (by decide) ?_
  refine va_put (D := (dC, dI)) (ci := 0) (v := .int 0) (ty := .int) (C := RX0) (T := TX0) (N := 2) hx hb hts (fun w h => mc (inX0 w h)) tyX0 tyX0_ok nmX0 hown hK hP hD hS 0 rfl rfl 1 (by decide) (hts _ (mc q_41)) (fun _ h9 => h9) rfl (by decide +kernel) rfl rfl (Nat.le_of_ble_eq_true rfl) dX0_init_15 (fun H locs hP hD hS => ?_)
  have hP : va_P (dC, dI) vwCl (wX0 cI h0 a1 0 z0) H := hP
  have hD : va_D A (wX0 cI h0 a1 0 z0) := hD
  exact retV hx hb hr hlocks ⟨a1, hP, hD⟩ hS dX0_init_18
