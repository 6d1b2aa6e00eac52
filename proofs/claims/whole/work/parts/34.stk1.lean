/-! the stack's cells: its object, then claimed, starts -/
abbrev wS (cI : ClassId) (ad : Nat → Nat) (aM aS : Nat → Int32) (mm lv : Nat) : va_W := [(ad 0, .inr (0, [.ref (ad 1), .ref (ad 2), .int (nI mm), .int (nI lv)])), (ad 1, .inl (cI, 20, .inl aM)), (ad 2, .inl (cI, 6, .inl aS))]
section ST1
variable (l : Launch) (dC : Nat → ClassId) (dI : Nat → Nat → Nat) (cI : ClassId) (ad : Nat → Nat) (aM aS : Nat → Int32) (mm lv : Nat)
set_option maxHeartbeats 4000000 in
set_option maxRecDepth 100000 in
theorem ctX0_count  : Met l yX0_count wsX0_count ({ frames := 0, cells := 0, slots := 0, locals := 0 }) (va_Pc [.ref (ad 0)] (fun U => va_P (dC, dI) vwCl (wS cI ad aM aS mm lv) U.heap ∧ va_K (dC, dI) vwCl [(cI, .int)] U)) (vp_Si (fun r => r = nI mm)) 0 0 (fun _ => False) := by
  refine Met.ofW (cc := cX0_count) (maxL := 1) (ret := (some .int)) (by decide) rfl ?_
  intro p e s m args below meth c s₁ B hml hv
  obtain ⟨rfl, hP, hK⟩ := hv
  have hx := B.exec
  have hb := B.bytes
  have hr := B.returns
  have hts := atoms_spec (ws := wsX0_count) B.pre
  have hown : s.vm.findClass RX0 = some m.cls := findClass_of_methodNamed B.named
  have hlocks := B.notSynchronized
  have hl := lv_entry ([.ref (ad 0)]) (n := 1) (Nat.le_of_ble_eq_true rfl)
  rw [lg_entry_eq]
  generalize (lg_sl ([.ref (ad 0)]) ++ List.replicate (1 - (lg_sl ([.ref (ad 0)])).length) Slot.unset).toArray = ls at hl ⊢
  have hl : lv_has ls 1 [(0, .ref (ad 0))] := hl
  refine lv_aload_n hx hb dX0_count_0 rfl (lv_at hl 0 rfl) ?_
  refine va_get (D := (dC, dI)) (ci := 0) (v := .int (nI mm)) (C := RX0) (T := TX0) (N := 4) hx hb hts (fun w h => List.mem_cons_of_mem _ (wf_X0 w h)) hown hK hP 0 rfl rfl 2 (by decide) (hts _ (List.mem_cons_of_mem _ wm_fl_X0_18)) (fun _ h9 => h9) rfl dX0_count_1 ?_
  exact W.iret (v := nI mm) hx hb hr (fun t9 ht9 hW9 => ⟨nI mm, rfl, rfl, ht9⟩) (fun q hq => by cases hq) dX0_count_4
set_option maxHeartbeats 4000000 in
set_option maxRecDepth 100000 in
theorem ctX0_top  : Met l yX0_top wsX0_top ({ frames := 0, cells := 0, slots := 0, locals := 0 }) (va_Pc [.ref (ad 0)] (fun U => va_P (dC, dI) vwCl (wS cI ad aM aS mm lv) U.heap ∧ va_K (dC, dI) vwCl [(cI, .int)] U)) (vp_Si (fun r => r = nI lv)) 0 0 (fun _ => False) := by
  refine Met.ofW (cc := cX0_top) (maxL := 1) (ret := (some .int)) (by decide) rfl ?_
  intro p e s m args below meth c s₁ B hml hv
  obtain ⟨rfl, hP, hK⟩ := hv
  have hx := B.exec
  have hb := B.bytes
  have hr := B.returns
  have hts := atoms_spec (ws := wsX0_top) B.pre
  have hown : s.vm.findClass RX0 = some m.cls := findClass_of_methodNamed B.named
  have hlocks := B.notSynchronized
  have hl := lv_entry ([.ref (ad 0)]) (n := 1) (Nat.le_of_ble_eq_true rfl)
  rw [lg_entry_eq]
  generalize (lg_sl ([.ref (ad 0)]) ++ List.replicate (1 - (lg_sl ([.ref (ad 0)])).length) Slot.unset).toArray = ls at hl ⊢
  have hl : lv_has ls 1 [(0, .ref (ad 0))] := hl
  refine lv_aload_n hx hb dX0_top_0 rfl (lv_at hl 0 rfl) ?_
  refine va_get (D := (dC, dI)) (ci := 0) (v := .int (nI lv)) (C := RX0) (T := TX0) (N := 4) hx hb hts (fun w h => List.mem_cons_of_mem _ (wf_X0 w h)) hown hK hP 0 rfl rfl 3 (by decide) (hts _ (List.mem_cons_of_mem _ wm_fl_X0_22)) (fun _ h9 => h9) rfl dX0_top_1 ?_
  exact W.iret (v := nI lv) hx hb hr (fun t9 ht9 hW9 => ⟨nI lv, rfl, rfl, ht9⟩) (fun q hq => by cases hq) dX0_top_4
set_option maxHeartbeats 4000000 in
set_option maxRecDepth 100000 in
theorem ctX0_isFull (hm : mm ≤ 20) : Met l yX0_isFull wsX0_isFull ({ frames := 0, cells := 0, slots := 0, locals := 0 }) (va_Pc [.ref (ad 0)] (fun U => va_P (dC, dI) vwCl (wS cI ad aM aS mm lv) U.heap ∧ va_K (dC, dI) vwCl [(cI, .int)] U)) (vp_Si (fun r => (r = 0 ∧ mm < 20) ∨ (r = 1 ∧ mm = 20))) 0 0 (fun _ => False) := by
  refine Met.ofW (cc := cX0_isFull) (maxL := 1) (ret := (some .boolean)) (by decide) rfl ?_
  intro p e s m args below meth c s₁ B hml hv
  obtain ⟨rfl, hP, hK⟩ := hv
  have hx := B.exec
  have hb := B.bytes
  have hr := B.returns
  have hts := atoms_spec (ws := wsX0_isFull) B.pre
  have hown : s.vm.findClass RX0 = some m.cls := findClass_of_methodNamed B.named
  have hlocks := B.notSynchronized
  have hl := lv_entry ([.ref (ad 0)]) (n := 1) (Nat.le_of_ble_eq_true rfl)
  rw [lg_entry_eq]
  generalize (lg_sl ([.ref (ad 0)]) ++ List.replicate (1 - (lg_sl ([.ref (ad 0)])).length) Slot.unset).toArray = ls at hl ⊢
  have hl : lv_has ls 1 [(0, .ref (ad 0))] := hl
  refine lv_aload_n hx hb dX0_isFull_0 rfl (lv_at hl 0 rfl) ?_
  refine va_get (D := (dC, dI)) (ci := 0) (v := .int (nI mm)) (C := RX0) (T := TX0) (N := 4) hx hb hts (fun w h => List.mem_cons_of_mem _ (wf_X0 w h)) hown hK hP 0 rfl rfl 2 (by decide) (hts _ (List.mem_cons_of_mem _ wm_fl_X0_18)) (fun _ h9 => h9) rfl dX0_isFull_1 ?_
  refine lv_bipush (v := nI 20) hx hb dX0_isFull_4 (by decide) ?_
  refine lv_icmp_lt (tgt := 13) hx hb dX0_isFull_6 (by decide) (fun h1 => ?_) (fun h1 => ?_)
  · skip
    have h1 : mm < 20 := (nI_ltI (a := mm) (b := 20) (by omega) (by omega)).mp h1
    refine lv_iconst (v := 0) hx hb dX0_isFull_13 (by decide) ?_
    exact W.zret (v := 0) hx hb hr (rfl) (fun t9 ht9 hW9 => ⟨0, rfl, Or.inl ⟨rfl, h1⟩, ht9⟩) (fun q hq => by cases hq) dX0_isFull_14
  · skip
    have h1 : ¬ mm < 20 := fun z => h1 ((nI_ltI (a := mm) (b := 20) (by omega) (by omega)).mpr z)
    refine lv_iconst (v := nI 1) hx hb dX0_isFull_9 (by decide) ?_
    refine lv_goto (tgt := 14) hx hb dX0_isFull_10 (by decide) ?_
    exact W.zret (v := nI 1) hx hb hr (rfl) (fun t9 ht9 hW9 => ⟨nI 1, rfl, Or.inr ⟨rfl, by omega⟩, ht9⟩) (fun q hq => by cases hq) dX0_isFull_14
set_option maxHeartbeats 4000000 in
set_option maxRecDepth 100000 in
theorem ctX0_claimedTerms (hm : mm ≤ 20) (cm : Nat → Nat) (hcm : ∀ i, i < mm → aM i = nI (cm i)) : Met l yX0_claimedTerms wsX0_claimedTerms ({ frames := 0, cells := 0, slots := 0, locals := 0 }) (va_Pc [.ref (ad 0)] (fun U => va_P (dC, dI) vwCl (wS cI ad aM aS mm lv) U.heap ∧ va_K (dC, dI) vwCl [(cI, .int)] U)) (vp_Si (fun r => r = pc_ct cm mm)) 0 0 (fun _ => False) := by
  refine Met.ofW (cc := cX0_claimedTerms) (maxL := 3) (ret := (some .int)) (by decide) rfl ?_
  intro p e s m args below meth c s₁ B hml hv
  obtain ⟨rfl, hP, hK⟩ := hv
  have hx := B.exec
  have hb := B.bytes
  have hr := B.returns
  have hts := atoms_spec (ws := wsX0_claimedTerms) B.pre
  have hown : s.vm.findClass RX0 = some m.cls := findClass_of_methodNamed B.named
  have hlocks := B.notSynchronized
  have hl := lv_entry ([.ref (ad 0)]) (n := 3) (Nat.le_of_ble_eq_true rfl)
  rw [lg_entry_eq]
  generalize (lg_sl ([.ref (ad 0)]) ++ List.replicate (3 - (lg_sl ([.ref (ad 0)])).length) Slot.unset).toArray = ls at hl ⊢
  have hl : lv_has ls 3 [(0, .ref (ad 0))] := hl
  refine lv_iconst (v := 0) hx hb dX0_claimedTerms_0 (by decide) ?_
  refine lv_istore_n (lv' := [(1, .int 0), (0, .ref (ad 0))]) hx hb dX0_claimedTerms_1 rfl hl (by decide) rfl (fun ls hl => ?_)
  refine lv_iconst (v := 0) hx hb dX0_claimedTerms_2 (by decide) ?_
  refine lv_istore_n (lv' := [(2, .int 0), (1, .int 0), (0, .ref (ad 0))]) hx hb dX0_claimedTerms_3 rfl hl (by decide) rfl (fun ls hl => ?_)
  have hl : lv_has ls 3 [(2, .int (nI 0)), (1, .int (pc_ct cm 0)), (0, .ref (ad 0))] := lv_sub hl [0, 1, 2] rfl
  refine xw_loop (pc := 4) (fun (i : Nat) => mm - i) (fun (i : Nat) ls H9 locs9 => (i ≤ mm) ∧ H9 = s.heap ∧ locs9 = [] ∧ lv_has ls 3 [(2, .int (nI i)), (1, .int (pc_ct cm i)), (0, .ref (ad 0))]) ?_ 0 ls _ _ ⟨Nat.zero_le _, rfl, rfl, hl⟩
  intro i ls H9 locs9 ⟨hi, hH9, hL9, hl⟩ ih
  subst hH9
  subst hL9
  refine lv_iload_n hx hb dX0_claimedTerms_4 rfl (lv_at hl 0 rfl) ?_
  refine lv_aload_n hx hb dX0_claimedTerms_5 rfl (lv_at hl 2 rfl) ?_
  refine va_get (D := (dC, dI)) (ci := 0) (v := .int (nI mm)) (C := RX0) (T := TX0) (N := 4) hx hb hts (fun w h => List.mem_cons_of_mem _ (wf_X0 w h)) hown hK hP 0 rfl rfl 2 (by decide) (hts _ (List.mem_cons_of_mem _ wm_fl_X0_18)) (fun _ h9 => h9) rfl dX0_claimedTerms_6 ?_
  refine lv_icmp_ge (tgt := 29) hx hb dX0_claimedTerms_9 (by decide) (fun h1 => ?_) (fun h1 => ?_)
  · skip
    have h1 : mm ≤ i := (nI_leI (a := mm) (b := i) (by omega) (by omega)).mp h1
    refine lv_iload_n hx hb dX0_claimedTerms_29 rfl (lv_at hl 1 rfl) ?_
    have etn : i = mm := by omega
    exact W.iret (v := pc_ct cm i) hx hb hr (fun t9 ht9 hW9 => ⟨pc_ct cm i, rfl, by rw [etn], ht9⟩) (fun q hq => by cases hq) dX0_claimedTerms_30
  · skip
    have h1 : ¬ mm ≤ i := fun z => h1 ((nI_leI (a := mm) (b := i) (by omega) (by omega)).mpr z)
    refine lv_iload_n hx hb dX0_claimedTerms_12 rfl (lv_at hl 1 rfl) ?_
    refine lv_iconst (v := 1) hx hb dX0_claimedTerms_13 (by decide) ?_
    refine lv_aload_n hx hb dX0_claimedTerms_14 rfl (lv_at hl 2 rfl) ?_
    refine va_get (D := (dC, dI)) (ci := 0) (v := .ref (ad 1)) (C := RX0) (T := TX0) (N := 4) hx hb hts (fun w h => List.mem_cons_of_mem _ (wf_X0 w h)) hown hK hP 0 rfl rfl 0 (by decide) (hts _ (List.mem_cons_of_mem _ wm_fl_X0_9)) (fun _ h9 => h9) rfl dX0_claimedTerms_15 ?_
    refine lv_iload_n hx hb dX0_claimedTerms_18 rfl (lv_at hl 0 rfl) ?_
    refine xr_iald (t := i) (v := nI (cm i)) hx hb hK hP 1 0 rfl rfl (by omega) (by omega) (hcm i (by omega)) dX0_claimedTerms_19 ?_
    refine lv_ishl hx hb dX0_claimedTerms_20 ?_
    refine lv_ior hx hb dX0_claimedTerms_21 ?_
    refine lv_istore_n (lv' := [(1, .int ((pc_ct cm i) ||| (1 <<< ((nI (cm i)) &&& 31)))), (2, .int (nI i)), (0, .ref (ad 0))]) hx hb dX0_claimedTerms_22 rfl hl (by decide) rfl (fun ls hl => ?_)
    refine lv_iinc (k := 1) (v := nI (i + 1)) (lv' := [(2, .int (nI (i + 1))), (1, .int ((pc_ct cm i) ||| (1 <<< ((nI (cm i)) &&& 31)))), (0, .ref (ad 0))]) hx hb dX0_claimedTerms_23 hl rfl (nI_1 i) (by decide) rfl (fun ls hl => ?_)
    refine lv_goto (tgt := 4) hx hb dX0_claimedTerms_26 (by decide) ?_
    have hl : lv_has ls 3 [(2, .int (nI (i + 1))), (1, .int (pc_ct cm (i + 1))), (0, .ref (ad 0))] := lv_sub hl [0, 1, 2] rfl
    exact ih (i + 1) ls _ _ ⟨by omega, rfl, rfl, hl⟩ (by show mm - (i + 1) < mm - i; omega)
set_option maxHeartbeats 4000000 in
set_option maxRecDepth 100000 in
theorem ctX0_push (sz : Nat) (hm : mm < 20) (x : Int32) : Met l yX0_push wsX0_push ({ frames := 0, cells := 0, slots := 0, locals := 0 }) (va_Pc [.ref (ad 0), .int x] (fun U => U.heap.size = sz ∧ va_P (dC, dI) vwCl (wS cI ad aM aS mm lv) U.heap ∧ va_K (dC, dI) vwCl [(cI, .int)] U ∧ va_D (fun _ => True) (wS cI ad aM aS mm lv))) (va_Qi (fun r _ => r = nI (mm + 1)) (fun (u : Unit) t9 => va_P (dC, dI) vwCl (wS cI ad (upd aM mm x) aS (mm + 1) lv) t9.heap ∧ va_K (dC, dI) vwCl [(cI, .int)] t9 ∧ va_D (va_A (wS cI ad aM aS mm lv) sz) (wS cI ad (upd aM mm x) aS (mm + 1) lv)) (va_A (wS cI ad aM aS mm lv) sz)) 0 0 (va_A (wS cI ad aM aS mm lv) sz) := by
  refine Met.ofW (cc := cX0_push) (maxL := 2) (ret := (some .int)) (by decide) rfl ?_
  intro p e s m args below meth c s₁ B hml hv
  obtain ⟨rfl, hsz, hP, hK, hD0⟩ := hv
  subst hsz
  have hx := B.exec
  have hb := B.bytes
  have hr := B.returns
  have hts := atoms_spec (ws := wsX0_push) B.pre
  have hown : s.vm.findClass RX0 = some m.cls := findClass_of_methodNamed B.named
  have hlocks := B.notSynchronized
  have hl := lv_entry ([.ref (ad 0), .int x]) (n := 2) (Nat.le_of_ble_eq_true rfl)
  rw [lg_entry_eq]
  generalize (lg_sl ([.ref (ad 0), .int x]) ++ List.replicate (2 - (lg_sl ([.ref (ad 0), .int x])).length) Slot.unset).toArray = ls at hl ⊢
  have hl : lv_has ls 2 [(0, .ref (ad 0)), (1, .int x)] := hl
  have hD := hD0.self (sz := s.heap.size)
  generalize hAe : va_A (wS cI ad aM aS mm lv) s.heap.size = A9 at hD ⊢
  have hA : ∀ q : Nat, s.heap.size ≤ q → A9 q := fun q h => by rw [← hAe]; exact Or.inr h
  have hS : va_S A9 s.heap s.heap [] := va_S.rf
  refine lv_aload_n hx hb dX0_push_0 rfl (lv_at hl 0 rfl) ?_
  refine va_get (D := (dC, dI)) (ci := 0) (v := .ref (ad 1)) (C := RX0) (T := TX0) (N := 4) hx hb hts (fun w h => List.mem_cons_of_mem _ (wf_X0 w h)) hown hK hP 0 rfl rfl 0 (by decide) (hts _ (List.mem_cons_of_mem _ wm_fl_X0_9)) (fun _ h9 => h9) rfl dX0_push_1 ?_
  refine lv_aload_n hx hb dX0_push_4 rfl (lv_at hl 0 rfl) ?_
  refine va_get (D := (dC, dI)) (ci := 0) (v := .int (nI mm)) (C := RX0) (T := TX0) (N := 4) hx hb hts (fun w h => List.mem_cons_of_mem _ (wf_X0 w h)) hown hK hP 0 rfl rfl 2 (by decide) (hts _ (List.mem_cons_of_mem _ wm_fl_X0_18)) (fun _ h9 => h9) rfl dX0_push_5 ?_
  refine lv_iload_n hx hb dX0_push_8 rfl (lv_at hl 1 rfl) ?_
  refine xr_iast (t := mm) (x := x) hx hb hK hP hD hS 1 0 rfl rfl (by omega) (by omega) dX0_push_9 (fun H locs hP hD hS => ?_)
  have hP : va_P (dC, dI) vwCl [(ad 0, .inr (0, [.ref (ad 1), .ref (ad 2), .int (nI mm), .int (nI lv)])), (ad 1, .inl (cI, 20, .inl (upd aM mm x))), (ad 2, .inl (cI, 6, .inl aS))] H := hP
  have hD : va_D A9 [(ad 0, .inr (0, [.ref (ad 1), .ref (ad 2), .int (nI mm), .int (nI lv)])), (ad 1, .inl (cI, 20, .inl (upd aM mm x))), (ad 2, .inl (cI, 6, .inl aS))] := hD
  refine lv_aload_n hx hb dX0_push_10 rfl (lv_at hl 0 rfl) ?_
  refine lv_dup hx hb dX0_push_11 rfl ?_
  refine va_get (D := (dC, dI)) (ci := 0) (v := .int (nI mm)) (C := RX0) (T := TX0) (N := 4) hx hb hts (fun w h => List.mem_cons_of_mem _ (wf_X0 w h)) hown hK hP 0 rfl rfl 2 (by decide) (hts _ (List.mem_cons_of_mem _ wm_fl_X0_18)) (fun _ h9 => h9) rfl dX0_push_12 ?_
  refine lv_iconst (v := 1) hx hb dX0_push_15 (by decide) ?_
  refine lv_iadd hx hb dX0_push_16 ?_
  refine lv_topi (fun y9 e9 => ?_)
  rw [nI_1] at e9
  subst e9
  refine va_put (D := (dC, dI)) (ci := 0) (v := .int (nI (mm + 1))) (ty := .int) (C := RX0) (T := TX0) (N := 4) hx hb hts (fun w h => List.mem_cons_of_mem _ (wf_X0 w h)) tyX0 tyX0_ok nmX0 hown hK hP hD hS 0 rfl rfl 2 (by decide) (hts _ (List.mem_cons_of_mem _ wm_fl_X0_18)) (fun _ h9 => h9) rfl (by decide +kernel) rfl rfl (Nat.le_of_ble_eq_true rfl) dX0_push_17 (fun H locs hP hD hS => ?_)
  have hP : va_P (dC, dI) vwCl [(ad 0, .inr (0, [.ref (ad 1), .ref (ad 2), .int (nI (mm + 1)), .int (nI lv)])), (ad 1, .inl (cI, 20, .inl (upd aM mm x))), (ad 2, .inl (cI, 6, .inl aS))] H := hP
  have hD : va_D A9 [(ad 0, .inr (0, [.ref (ad 1), .ref (ad 2), .int (nI (mm + 1)), .int (nI lv)])), (ad 1, .inl (cI, 20, .inl (upd aM mm x))), (ad 2, .inl (cI, 6, .inl aS))] := hD
  refine lv_aload_n hx hb dX0_push_20 rfl (lv_at hl 0 rfl) ?_
  refine va_get (D := (dC, dI)) (ci := 0) (v := .int (nI (mm + 1))) (C := RX0) (T := TX0) (N := 4) hx hb hts (fun w h => List.mem_cons_of_mem _ (wf_X0 w h)) hown hK hP 0 rfl rfl 2 (by decide) (hts _ (List.mem_cons_of_mem _ wm_fl_X0_18)) (fun _ h9 => h9) rfl dX0_push_21 ?_
  exact W.iret (v := nI (mm + 1)) hx hb hr (fun t9 ht9 hW9 => ⟨⟨nI (mm + 1), (), rfl, rfl, by rw [ht9]; exact hP, va_K.moved hW9.alike hK, hD⟩, hS.F ht9⟩) hS.2.2 dX0_push_24
set_option maxHeartbeats 4000000 in
set_option maxRecDepth 100000 in
theorem ctX0_raise (sz : Nat) (hlv : lv < 5) : Met l yX0_raise wsX0_raise ({ frames := 0, cells := 0, slots := 0, locals := 0 }) (va_Pc [.ref (ad 0)] (fun U => U.heap.size = sz ∧ va_P (dC, dI) vwCl (wS cI ad aM aS mm lv) U.heap ∧ va_K (dC, dI) vwCl [(cI, .int)] U ∧ va_D (fun _ => True) (wS cI ad aM aS mm lv))) (va_Qi (fun r _ => r = nI (lv + 1)) (fun (u : Unit) t9 => va_P (dC, dI) vwCl (wS cI ad aM (upd aS (lv + 1) (nI mm)) mm (lv + 1)) t9.heap ∧ va_K (dC, dI) vwCl [(cI, .int)] t9 ∧ va_D (va_A (wS cI ad aM aS mm lv) sz) (wS cI ad aM (upd aS (lv + 1) (nI mm)) mm (lv + 1))) (va_A (wS cI ad aM aS mm lv) sz)) 0 0 (va_A (wS cI ad aM aS mm lv) sz) := by
  refine Met.ofW (cc := cX0_raise) (maxL := 1) (ret := (some .int)) (by decide) rfl ?_
  intro p e s m args below meth c s₁ B hml hv
  obtain ⟨rfl, hsz, hP, hK, hD0⟩ := hv
  subst hsz
  have hx := B.exec
  have hb := B.bytes
  have hr := B.returns
  have hts := atoms_spec (ws := wsX0_raise) B.pre
  have hown : s.vm.findClass RX0 = some m.cls := findClass_of_methodNamed B.named
  have hlocks := B.notSynchronized
  have hl := lv_entry ([.ref (ad 0)]) (n := 1) (Nat.le_of_ble_eq_true rfl)
  rw [lg_entry_eq]
  generalize (lg_sl ([.ref (ad 0)]) ++ List.replicate (1 - (lg_sl ([.ref (ad 0)])).length) Slot.unset).toArray = ls at hl ⊢
  have hl : lv_has ls 1 [(0, .ref (ad 0))] := hl
  have hD := hD0.self (sz := s.heap.size)
  generalize hAe : va_A (wS cI ad aM aS mm lv) s.heap.size = A9 at hD ⊢
  have hA : ∀ q : Nat, s.heap.size ≤ q → A9 q := fun q h => by rw [← hAe]; exact Or.inr h
  have hS : va_S A9 s.heap s.heap [] := va_S.rf
  refine lv_aload_n hx hb dX0_raise_0 rfl (lv_at hl 0 rfl) ?_
  refine lv_dup hx hb dX0_raise_1 rfl ?_
  refine va_get (D := (dC, dI)) (ci := 0) (v := .int (nI lv)) (C := RX0) (T := TX0) (N := 4) hx hb hts (fun w h => List.mem_cons_of_mem _ (wf_X0 w h)) hown hK hP 0 rfl rfl 3 (by decide) (hts _ (List.mem_cons_of_mem _ wm_fl_X0_22)) (fun _ h9 => h9) rfl dX0_raise_2 ?_
  refine lv_iconst (v := 1) hx hb dX0_raise_5 (by decide) ?_
  refine lv_iadd hx hb dX0_raise_6 ?_
  refine lv_topi (fun y9 e9 => ?_)
  rw [nI_1] at e9
  subst e9
  refine va_put (D := (dC, dI)) (ci := 0) (v := .int (nI (lv + 1))) (ty := .int) (C := RX0) (T := TX0) (N := 4) hx hb hts (fun w h => List.mem_cons_of_mem _ (wf_X0 w h)) tyX0 tyX0_ok nmX0 hown hK hP hD hS 0 rfl rfl 3 (by decide) (hts _ (List.mem_cons_of_mem _ wm_fl_X0_22)) (fun _ h9 => h9) rfl (by decide +kernel) rfl rfl (Nat.le_of_ble_eq_true rfl) dX0_raise_7 (fun H locs hP hD hS => ?_)
  have hP : va_P (dC, dI) vwCl [(ad 0, .inr (0, [.ref (ad 1), .ref (ad 2), .int (nI mm), .int (nI (lv + 1))])), (ad 1, .inl (cI, 20, .inl aM)), (ad 2, .inl (cI, 6, .inl aS))] H := hP
  have hD : va_D A9 [(ad 0, .inr (0, [.ref (ad 1), .ref (ad 2), .int (nI mm), .int (nI (lv + 1))])), (ad 1, .inl (cI, 20, .inl aM)), (ad 2, .inl (cI, 6, .inl aS))] := hD
  refine lv_aload_n hx hb dX0_raise_10 rfl (lv_at hl 0 rfl) ?_
  refine va_get (D := (dC, dI)) (ci := 0) (v := .ref (ad 2)) (C := RX0) (T := TX0) (N := 4) hx hb hts (fun w h => List.mem_cons_of_mem _ (wf_X0 w h)) hown hK hP 0 rfl rfl 1 (by decide) (hts _ (List.mem_cons_of_mem _ wm_fl_X0_15)) (fun _ h9 => h9) rfl dX0_raise_11 ?_
  refine lv_aload_n hx hb dX0_raise_14 rfl (lv_at hl 0 rfl) ?_
  refine va_get (D := (dC, dI)) (ci := 0) (v := .int (nI (lv + 1))) (C := RX0) (T := TX0) (N := 4) hx hb hts (fun w h => List.mem_cons_of_mem _ (wf_X0 w h)) hown hK hP 0 rfl rfl 3 (by decide) (hts _ (List.mem_cons_of_mem _ wm_fl_X0_22)) (fun _ h9 => h9) rfl dX0_raise_15 ?_
  refine lv_aload_n hx hb dX0_raise_18 rfl (lv_at hl 0 rfl) ?_
  refine va_get (D := (dC, dI)) (ci := 0) (v := .int (nI mm)) (C := RX0) (T := TX0) (N := 4) hx hb hts (fun w h => List.mem_cons_of_mem _ (wf_X0 w h)) hown hK hP 0 rfl rfl 2 (by decide) (hts _ (List.mem_cons_of_mem _ wm_fl_X0_18)) (fun _ h9 => h9) rfl dX0_raise_19 ?_
  refine xr_iast (t := lv + 1) (x := nI mm) hx hb hK hP hD hS 2 0 rfl rfl (by omega) (by omega) dX0_raise_22 (fun H locs hP hD hS => ?_)
  have hP : va_P (dC, dI) vwCl [(ad 0, .inr (0, [.ref (ad 1), .ref (ad 2), .int (nI mm), .int (nI (lv + 1))])), (ad 1, .inl (cI, 20, .inl aM)), (ad 2, .inl (cI, 6, .inl (upd aS (lv + 1) (nI mm))))] H := hP
  have hD : va_D A9 [(ad 0, .inr (0, [.ref (ad 1), .ref (ad 2), .int (nI mm), .int (nI (lv + 1))])), (ad 1, .inl (cI, 20, .inl aM)), (ad 2, .inl (cI, 6, .inl (upd aS (lv + 1) (nI mm))))] := hD
  refine lv_aload_n hx hb dX0_raise_23 rfl (lv_at hl 0 rfl) ?_
  refine va_get (D := (dC, dI)) (ci := 0) (v := .int (nI (lv + 1))) (C := RX0) (T := TX0) (N := 4) hx hb hts (fun w h => List.mem_cons_of_mem _ (wf_X0 w h)) hown hK hP 0 rfl rfl 3 (by decide) (hts _ (List.mem_cons_of_mem _ wm_fl_X0_22)) (fun _ h9 => h9) rfl dX0_raise_24 ?_
  exact W.iret (v := nI (lv + 1)) hx hb hr (fun t9 ht9 hW9 => ⟨⟨nI (lv + 1), (), rfl, rfl, by rw [ht9]; exact hP, va_K.moved hW9.alike hK, hD⟩, hS.F ht9⟩) hS.2.2 dX0_raise_27
set_option maxHeartbeats 4000000 in
set_option maxRecDepth 100000 in
theorem ctX0_drop (sz v0 : Nat) (hlv : lv < 5) (hv0 : v0 ≤ mm) (has : aS (lv + 1) = nI v0) : Met l yX0_drop wsX0_drop ({ frames := 0, cells := 0, slots := 0, locals := 0 }) (va_Pc [.ref (ad 0)] (fun U => U.heap.size = sz ∧ va_P (dC, dI) vwCl (wS cI ad aM aS mm (lv + 1)) U.heap ∧ va_K (dC, dI) vwCl [(cI, .int)] U ∧ va_D (fun _ => True) (wS cI ad aM aS mm (lv + 1)))) (va_Qi (fun r _ => r = nI (mm - v0)) (fun (u : Unit) t9 => va_P (dC, dI) vwCl (wS cI ad aM aS v0 lv) t9.heap ∧ va_K (dC, dI) vwCl [(cI, .int)] t9 ∧ va_D (va_A (wS cI ad aM aS mm (lv + 1)) sz) (wS cI ad aM aS v0 lv)) (va_A (wS cI ad aM aS mm (lv + 1)) sz)) 0 0 (va_A (wS cI ad aM aS mm (lv + 1)) sz) := by
  refine Met.ofW (cc := cX0_drop) (maxL := 2) (ret := (some .int)) (by decide) rfl ?_
  intro p e s m args below meth c s₁ B hml hv
  obtain ⟨rfl, hsz, hP, hK, hD0⟩ := hv
  subst hsz
  have hx := B.exec
  have hb := B.bytes
  have hr := B.returns
  have hts := atoms_spec (ws := wsX0_drop) B.pre
  have hown : s.vm.findClass RX0 = some m.cls := findClass_of_methodNamed B.named
  have hlocks := B.notSynchronized
  have hl := lv_entry ([.ref (ad 0)]) (n := 2) (Nat.le_of_ble_eq_true rfl)
  rw [lg_entry_eq]
  generalize (lg_sl ([.ref (ad 0)]) ++ List.replicate (2 - (lg_sl ([.ref (ad 0)])).length) Slot.unset).toArray = ls at hl ⊢
  have hl : lv_has ls 2 [(0, .ref (ad 0))] := hl
  have hD := hD0.self (sz := s.heap.size)
  generalize hAe : va_A (wS cI ad aM aS mm (lv + 1)) s.heap.size = A9 at hD ⊢
  have hA : ∀ q : Nat, s.heap.size ≤ q → A9 q := fun q h => by rw [← hAe]; exact Or.inr h
  have hS : va_S A9 s.heap s.heap [] := va_S.rf
  refine lv_aload_n hx hb dX0_drop_0 rfl (lv_at hl 0 rfl) ?_
  refine va_get (D := (dC, dI)) (ci := 0) (v := .int (nI mm)) (C := RX0) (T := TX0) (N := 4) hx hb hts (fun w h => List.mem_cons_of_mem _ (wf_X0 w h)) hown hK hP 0 rfl rfl 2 (by decide) (hts _ (List.mem_cons_of_mem _ wm_fl_X0_18)) (fun _ h9 => h9) rfl dX0_drop_1 ?_
  refine lv_aload_n hx hb dX0_drop_4 rfl (lv_at hl 0 rfl) ?_
  refine va_get (D := (dC, dI)) (ci := 0) (v := .ref (ad 2)) (C := RX0) (T := TX0) (N := 4) hx hb hts (fun w h => List.mem_cons_of_mem _ (wf_X0 w h)) hown hK hP 0 rfl rfl 1 (by decide) (hts _ (List.mem_cons_of_mem _ wm_fl_X0_15)) (fun _ h9 => h9) rfl dX0_drop_5 ?_
  refine lv_aload_n hx hb dX0_drop_8 rfl (lv_at hl 0 rfl) ?_
  refine va_get (D := (dC, dI)) (ci := 0) (v := .int (nI (lv + 1))) (C := RX0) (T := TX0) (N := 4) hx hb hts (fun w h => List.mem_cons_of_mem _ (wf_X0 w h)) hown hK hP 0 rfl rfl 3 (by decide) (hts _ (List.mem_cons_of_mem _ wm_fl_X0_22)) (fun _ h9 => h9) rfl dX0_drop_9 ?_
  refine xr_iald (t := lv + 1) (v := nI v0) hx hb hK hP 2 0 rfl rfl (by omega) (by omega) (has) dX0_drop_12 ?_
  refine lv_isub hx hb dX0_drop_13 ?_
  refine lv_topi (fun y9 e9 => ?_)
  rw [pk_sub hv0] at e9
  subst e9
  refine lv_istore_n (lv' := [(1, .int (nI (mm - v0))), (0, .ref (ad 0))]) hx hb dX0_drop_14 rfl hl (by decide) rfl (fun ls hl => ?_)
  refine lv_aload_n hx hb dX0_drop_15 rfl (lv_at hl 1 rfl) ?_
  refine lv_aload_n hx hb dX0_drop_16 rfl (lv_at hl 1 rfl) ?_
  refine va_get (D := (dC, dI)) (ci := 0) (v := .ref (ad 2)) (C := RX0) (T := TX0) (N := 4) hx hb hts (fun w h => List.mem_cons_of_mem _ (wf_X0 w h)) hown hK hP 0 rfl rfl 1 (by decide) (hts _ (List.mem_cons_of_mem _ wm_fl_X0_15)) (fun _ h9 => h9) rfl dX0_drop_17 ?_
  refine lv_aload_n hx hb dX0_drop_20 rfl (lv_at hl 1 rfl) ?_
  refine va_get (D := (dC, dI)) (ci := 0) (v := .int (nI (lv + 1))) (C := RX0) (T := TX0) (N := 4) hx hb hts (fun w h => List.mem_cons_of_mem _ (wf_X0 w h)) hown hK hP 0 rfl rfl 3 (by decide) (hts _ (List.mem_cons_of_mem _ wm_fl_X0_22)) (fun _ h9 => h9) rfl dX0_drop_21 ?_
  refine xr_iald (t := lv + 1) (v := nI v0) hx hb hK hP 2 0 rfl rfl (by omega) (by omega) (has) dX0_drop_24 ?_
  refine va_put (D := (dC, dI)) (ci := 0) (v := .int (nI v0)) (ty := .int) (C := RX0) (T := TX0) (N := 4) hx hb hts (fun w h => List.mem_cons_of_mem _ (wf_X0 w h)) tyX0 tyX0_ok nmX0 hown hK hP hD hS 0 rfl rfl 2 (by decide) (hts _ (List.mem_cons_of_mem _ wm_fl_X0_18)) (fun _ h9 => h9) rfl (by decide +kernel) rfl rfl (Nat.le_of_ble_eq_true rfl) dX0_drop_25 (fun H locs hP hD hS => ?_)
  have hP : va_P (dC, dI) vwCl [(ad 0, .inr (0, [.ref (ad 1), .ref (ad 2), .int (nI v0), .int (nI (lv + 1))])), (ad 1, .inl (cI, 20, .inl aM)), (ad 2, .inl (cI, 6, .inl aS))] H := hP
  have hD : va_D A9 [(ad 0, .inr (0, [.ref (ad 1), .ref (ad 2), .int (nI v0), .int (nI (lv + 1))])), (ad 1, .inl (cI, 20, .inl aM)), (ad 2, .inl (cI, 6, .inl aS))] := hD
  refine lv_aload_n hx hb dX0_drop_28 rfl (lv_at hl 1 rfl) ?_
  refine lv_dup hx hb dX0_drop_29 rfl ?_
  refine va_get (D := (dC, dI)) (ci := 0) (v := .int (nI (lv + 1))) (C := RX0) (T := TX0) (N := 4) hx hb hts (fun w h => List.mem_cons_of_mem _ (wf_X0 w h)) hown hK hP 0 rfl rfl 3 (by decide) (hts _ (List.mem_cons_of_mem _ wm_fl_X0_22)) (fun _ h9 => h9) rfl dX0_drop_30 ?_
  refine lv_iconst (v := 1) hx hb dX0_drop_33 (by decide) ?_
  refine lv_isub hx hb dX0_drop_34 ?_
  refine lv_topi (fun y9 e9 => ?_)
  rw [nI_pred] at e9
  subst e9
  refine va_put (D := (dC, dI)) (ci := 0) (v := .int (nI lv)) (ty := .int) (C := RX0) (T := TX0) (N := 4) hx hb hts (fun w h => List.mem_cons_of_mem _ (wf_X0 w h)) tyX0 tyX0_ok nmX0 hown hK hP hD hS 0 rfl rfl 3 (by decide) (hts _ (List.mem_cons_of_mem _ wm_fl_X0_22)) (fun _ h9 => h9) rfl (by decide +kernel) rfl rfl (Nat.le_of_ble_eq_true rfl) dX0_drop_35 (fun H locs hP hD hS => ?_)
  have hP : va_P (dC, dI) vwCl [(ad 0, .inr (0, [.ref (ad 1), .ref (ad 2), .int (nI v0), .int (nI lv)])), (ad 1, .inl (cI, 20, .inl aM)), (ad 2, .inl (cI, 6, .inl aS))] H := hP
  have hD : va_D A9 [(ad 0, .inr (0, [.ref (ad 1), .ref (ad 2), .int (nI v0), .int (nI lv)])), (ad 1, .inl (cI, 20, .inl aM)), (ad 2, .inl (cI, 6, .inl aS))] := hD
  refine lv_iload_n hx hb dX0_drop_38 rfl (lv_at hl 0 rfl) ?_
  exact W.iret (v := nI (mm - v0)) hx hb hr (fun t9 ht9 hW9 => ⟨⟨nI (mm - v0), (), rfl, rfl, by rw [ht9]; exact hP, va_K.moved hW9.alike hK, hD⟩, hS.F ht9⟩) hS.2.2 dX0_drop_39
end ST1
