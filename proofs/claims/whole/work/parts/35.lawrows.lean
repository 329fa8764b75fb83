/-! worlds of two halves; the script -/
section HALF
variable {D : va_G} {cl : List vw_C} {wa wb wa' wb' : va_W} {H H1 : Heap} {A0 : Nat → Prop} {as : List Nat}
theorem va_Pl (h : va_P D cl (wa ++ wb) H) : va_P D cl wa H := fun k q hk => h k q (by rw [List.getElem?_append_left (List.getElem?_eq_some_iff.mp hk).1]; exact hk)
theorem va_Pr (h : va_P D cl (wa ++ wb) H) : va_P D cl wb H := fun k q hk => h (wa.length + k) q (by rw [List.getElem?_append_right (by omega), Nat.add_sub_cancel_left]; exact hk)
theorem va_Dl (h : va_D A0 (wa ++ wb)) : va_D A0 wa := ⟨fun i j p q hp hq e => h.1 i j p q (by rw [List.getElem?_append_left (List.getElem?_eq_some_iff.mp hp).1]; exact hp) (by rw [List.getElem?_append_left (List.getElem?_eq_some_iff.mp hq).1]; exact hq) e, fun k q hk => h.2 k q (by rw [List.getElem?_append_left (List.getElem?_eq_some_iff.mp hk).1]; exact hk)⟩
theorem va_Dr (h : va_D A0 (wa ++ wb)) : va_D A0 wb := ⟨fun i j p q hp hq e => by
  have := h.1 (wa.length + i) (wa.length + j) p q (by rw [List.getElem?_append_right (by omega), Nat.add_sub_cancel_left]; exact hp) (by rw [List.getElem?_append_right (by omega), Nat.add_sub_cancel_left]; exact hq) e
  omega, fun k q hk => h.2 (wa.length + k) q (by rw [List.getElem?_append_right (by omega), Nat.add_sub_cancel_left]; exact hk)⟩
theorem half_apart (hD : va_D A0 (wa ++ wb)) {i j : Nat} {p q : Nat × va_E} (hp : wa[i]? = some p) (hq : wb[j]? = some q) : p.1 ≠ q.1 := fun e => by
  have hl := (List.getElem?_eq_some_iff.mp hp).1
  have := hD.1 i (wa.length + j) p q (by rw [List.getElem?_append_left hl]; exact hp) (by rw [List.getElem?_append_right (by omega), Nat.add_sub_cancel_left]; exact hq) e
  omega
theorem joinL (hP : va_P D cl (wa ++ wb) H) (hD : va_D A0 (wa ++ wb)) (has : wa.map Prod.fst = as) (hfst : wa'.map Prod.fst = as) (hk : ∀ q : Nat, q < H.size → ¬ inA as q → H1[q]? = H[q]?) (hP1 : va_P D cl wa' H1) : va_P D cl (wa' ++ wb) H1 ∧ va_D A0 (wa' ++ wb) := by
  refine ⟨hP1.app (fun k q hq => ?_), hD.fst (by rw [List.map_append, List.map_append, hfst, has])⟩
  have h1 := va_Pr hP k q hq
  refine h1.kept (hk q.1 h1.lt (fun hin => ?_))
  subst has
  obtain ⟨j, x, hj, e⟩ := my_in hin
  exact half_apart hD hj hq e
theorem joinR (hP : va_P D cl (wa ++ wb) H) (hD : va_D A0 (wa ++ wb)) (has : wb.map Prod.fst = as) (hfst : wb'.map Prod.fst = as) (hk : ∀ q : Nat, q < H.size → ¬ inA as q → H1[q]? = H[q]?) (hP1 : va_P D cl wb' H1) : va_P D cl (wa ++ wb') H1 ∧ va_D A0 (wa ++ wb') := by
  refine ⟨va_P.app (fun k q hq => ?_) hP1, hD.fst (by rw [List.map_append, List.map_append, hfst, has])⟩
  have h1 := va_Pl hP k q hq
  refine h1.kept (hk q.1 h1.lt (fun hin => ?_))
  subst has
  obtain ⟨j, x, hj, e⟩ := my_in hin
  exact half_apart hD hq hj e.symm
end HALF
section HROW
variable {p : Program} {l : Launch} {e : Env} {R : Room} {s : State} {m : MethodId} {args : Array Value} {below : List Frame} {meth : Method} {c : Code} {H : Heap} {locs : List Loc} {cells slots : Nat} {Q : State → Prop}
variable {pc : Nat} {ls : Array Slot} {rest st0 : List Value} {D : va_G} {cl : List vw_C} {A0 : Nat → Prop} {aa : Array Value} {wa wb wa' wb' : va_W} {as : List Nat} {H0 : Heap}
theorem callLi {r : Int32} (hr : va_Run p l e R s m args below meth c H locs cells slots 0 0 (F0 m pc ls st0) rest (qI r (va_P D cl wa') (inA as) aa) (inA as)) (hS : va_S A0 H0 H locs) (hP : va_P D cl (wa ++ wb) H) (hD : va_D A0 (wa ++ wb)) (has : wa.map Prod.fst = as) (hfst : wa'.map Prod.fst = as)
    (kk : ∀ (H1 : Heap) (locs1 : List Loc), va_P D cl (wa' ++ wb) H1 → va_D A0 (wa' ++ wb) → va_S A0 H0 H1 locs1 → W p l e R s m args below meth c H1 locs1 cells slots Q (F0 m (pc + 3) ls (.int r :: rest))) : W p l e R s m args below meth c H locs cells slots Q (F0 m pc ls st0) :=
  va_calli hr hS (fun q _ h => my_allfree (va_Dl hD) has q h) (my_allfree (va_Dl hD) has) (fun r' u t H1 locs1 ht hvm hp hB hz hk hS1 => by
    subst hp
    rw [ht] at hB
    obtain ⟨g1, g2⟩ := joinL hP hD has hfst hk hB
    exact kk H1 locs1 g1 g2 hS1)
theorem callGi {r : Int32} (hr : va_Run p l e R s m args below meth c H locs cells slots 0 0 (F0 m pc ls st0) rest (qI r (va_P D cl wb') (inA as) aa) (inA as)) (hS : va_S A0 H0 H locs) (hP : va_P D cl (wa ++ wb) H) (hD : va_D A0 (wa ++ wb)) (has : wb.map Prod.fst = as) (hfst : wb'.map Prod.fst = as)
    (kk : ∀ (H1 : Heap) (locs1 : List Loc), va_P D cl (wa ++ wb') H1 → va_D A0 (wa ++ wb') → va_S A0 H0 H1 locs1 → W p l e R s m args below meth c H1 locs1 cells slots Q (F0 m (pc + 3) ls (.int r :: rest))) : W p l e R s m args below meth c H locs cells slots Q (F0 m pc ls st0) :=
  va_calli hr hS (fun q _ h => my_allfree (va_Dr hD) has q h) (my_allfree (va_Dr hD) has) (fun r' u t H1 locs1 ht hvm hp hB hz hk hS1 => by
    subst hp
    rw [ht] at hB
    obtain ⟨g1, g2⟩ := joinR hP hD has hfst hk hB
    exact kk H1 locs1 g1 g2 hS1)
end HROW
def pcX (av : List Value) (b L : Nat) (xs : Nat → Int32) : Array Value → State → Prop := va_Pc av (fun U => va_X b L xs U U.heap)
theorem preX {s : State} {H : Heap} {As : List Value} {b L : Nat} {xs : Nat → Int32} {A : Nat → Prop} {locs : List Loc} (hX : va_X b L xs s s.heap) (hbl : b < s.heap.size) (hbA : ¬ A b) (hS : va_S A s.heap H locs) : PreS s H (pcX As b L xs) As :=
  ⟨fun a U g mk q => ⟨q.1, va_X.moved (u := U) (U := U.calling g mk a) (Vm.Alike.refl U.vm) q.2⟩, fun U hU hW => ⟨rfl, by show va_X b L xs U U.heap; rw [hU]; exact va_X.moved hW.alike (va_X.kept hX (hS.2.1 b hbl hbA))⟩⟩
def cell0 (L : Nat) (xs : Nat → Int32) : Int32 := if Int32.ofNat L ≤ 0 then 0 else xs (0 : Int32).toNatClampNeg
set_option maxHeartbeats 4000000 in
set_option maxRecDepth 100000 in
theorem cL_cell_met (l : Launch) (b L : Nat) (xs : Nat → Int32) (hL : L ≤ 2561) : Met l yL_cell wsL_cell ({ frames := 0, cells := 0, slots := 0, locals := 0 } : Room) (pcX [.ref b, .int 0] b L xs) (qI (cell0 L xs) pT aN) 0 0 aN := by
  refine Met.ofW (cc := cL_cell) (maxL := 2) (ret := (some .int)) (by decide) rfl ?_
  intro p e s m args below meth c s₁ B hml hv
  obtain ⟨rfl, hX⟩ := hv
  have hx := B.exec
  have hb := B.bytes
  have hr := B.returns
  have hlocks := B.notSynchronized
  have hbl : b < s.heap.size := by
    obtain ⟨scr, h1, -⟩ := hX
    exact (Array.getElem?_eq_some_iff.mp h1).1
  have hbA : ¬ aN b := fun h => h
  have hS : va_S aN s.heap s.heap [] := va_S.rf
  have hl := lv_entry ([.ref b, .int 0]) (n := 2) (Nat.le_of_ble_eq_true rfl)
  rw [lg_entry_eq]
  generalize (lg_sl ([.ref b, .int 0]) ++ List.replicate (2 - (lg_sl ([.ref b, .int 0])).length) Slot.unset).toArray = ls at hl ⊢
  have hl : lv_has ls 2 [(0, .ref b), (1, .int 0)] := hl
  refine lv_iload_n hx hb dL_cell_0 rfl (lv_at hl 1 rfl) ?_
  refine lv_aload_n hx hb dL_cell_1 rfl (lv_at hl 0 rfl) ?_
  refine va_slen hx hb hX hbl hbA hS dL_cell_2 ?_
  refine lv_icmp_ge (tgt := 12) hx hb dL_cell_3 (by decide) (fun q => ?_) (fun q => ?_)
  · refine lv_iconst (v := 0) hx hb dL_cell_12 (by decide) ?_
    have e0 : cell0 L xs = 0 := if_pos q
    rw [e0]
    exact retI hx hb hr hlocks trivial hS dL_cell_13
  · refine lv_aload_n hx hb dL_cell_6 rfl (lv_at hl 0 rfl) ?_
    refine lv_iload_n hx hb dL_cell_7 rfl (lv_at hl 1 rfl) ?_
    have hpos : 0 < L := by
      rcases Nat.eq_zero_or_pos L with h | h
      · subst h; exact absurd (by decide) q
      · exact h
    refine va_sld hx hb hX hbl hbA hS (vp_in_nI (n := 0) hpos (by omega)) dL_cell_8 ?_
    refine lv_goto (tgt := 13) hx hb dL_cell_9 (by decide) ?_
    have e0 : cell0 L xs = xs (0 : Int32).toNatClampNeg := if_neg q
    rw [e0]
    exact retI hx hb hr hlocks trivial hS dL_cell_13
