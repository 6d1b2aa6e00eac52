/-! the solver's cells: its object, found; the table's; the stack's -/
abbrev wF (cI : ClassId) (hf ad sd : Nat → Nat) (aF : Nat → Int32) (ms ck : Int32) (aK aA aB aC aP aV aN : Nat → Int32) (n : Nat) (aM aS : Nat → Int32) (mm lv : Nat) : va_W :=
  [(hf 0, .inr (2, [.ref (ad 0), .ref (sd 0), .ref (hf 1), .int ms, .int ck])), (hf 1, .inl (cI, 2, .inl aF)), (ad 0, .inr (1, [.ref (ad 1), .ref (ad 2), .ref (ad 3), .ref (ad 4), .ref (ad 5), .ref (ad 6), .ref (ad 7), .int (nI n)])), (ad 1, .inl (cI, 12, .inl aK)), (ad 2, .inl (cI, 12, .inl aA)), (ad 3, .inl (cI, 12, .inl aB)), (ad 4, .inl (cI, 12, .inl aC)), (ad 5, .inl (cI, 12, .inl aP)), (ad 6, .inl (cI, 2, .inl aV)), (ad 7, .inl (cI, 12, .inl aN)), (sd 0, .inr (0, [.ref (sd 1), .ref (sd 2), .int (nI mm), .int (nI lv)])), (sd 1, .inl (cI, 20, .inl aM)), (sd 2, .inl (cI, 6, .inl aS))]
theorem pc_in_y {k a b c : Nat → Nat} {n : Nat} {x mv cl : Int32} {r y : Nat} {w u : Nat → Int32} (h : pc_ah k a b c x (nI y) mv cl n 0 w = (true, u)) : pc_in k a b c n x mv cl (r + 1) y w = (some y, u) := by
  conv => lhs; unfold pc_in
  rw [h, if_pos rfl]
theorem pc_in_n {k a b c : Nat → Nat} {n : Nat} {x mv cl : Int32} {r y : Nat} {w u : Nat → Int32} (h : pc_ah k a b c x (nI y) mv cl n 0 w = (false, u)) : pc_in k a b c n x mv cl (r + 1) y w = pc_in k a b c n x mv cl r (y + 1) u := by
  conv => lhs; unfold pc_in
  rw [h, if_neg (fun z => Bool.noConfusion z)]
theorem pc_out_f {k a b c : Nat → Nat} {n : Nat} {fx mv cl : Int32} {r x : Nat} {w u : Nat → Int32} (h : pc_ah k a b c (nI x) 0 fx cl n 0 w = (false, u)) : pc_out k a b c n fx mv cl (r + 1) x w = pc_out k a b c n fx mv cl r (x + 1) u := by
  conv => lhs; unfold pc_out
  rw [h, if_neg (fun z => Bool.noConfusion z)]
theorem pc_out_s {k a b c : Nat → Nat} {n : Nat} {fx mv cl : Int32} {r x y : Nat} {w u v : Nat → Int32} (h : pc_ah k a b c (nI x) 0 fx cl n 0 w = (true, u)) (h2 : pc_in k a b c n (nI x) mv cl 32 0 u = (some y, v)) : pc_out k a b c n fx mv cl (r + 1) x w = (some (x, y), v) := by
  conv => lhs; unfold pc_out
  rw [h, if_pos rfl]
  simp only [h2]
theorem pc_out_n {k a b c : Nat → Nat} {n : Nat} {fx mv cl : Int32} {r x : Nat} {w u v : Nat → Int32} (h : pc_ah k a b c (nI x) 0 fx cl n 0 w = (true, u)) (h2 : pc_in k a b c n (nI x) mv cl 32 0 u = (none, v)) : pc_out k a b c n fx mv cl (r + 1) x w = pc_out k a b c n fx mv cl r (x + 1) v := by
  conv => lhs; unfold pc_out
  rw [h, if_pos rfl]
  simp only [h2]
section FS1
variable (l : Launch) (dC : Nat → ClassId) (dI : Nat → Nat → Nat) (cI : ClassId) (hf ad sd : Nat → Nat) (aF : Nat → Int32) (ms ck : Int32) (aK aA aB aC aP aV aN : Nat → Int32) (n : Nat) (aM aS : Nat → Int32) (mm lv : Nat)
set_option maxHeartbeats 4000000 in
set_option maxRecDepth 100000 in
theorem ctX4_terms  : Met l yX4_terms wsX4_terms ({ frames := 1, cells := 0, slots := 0, locals := 20 }) (va_Pc [.ref (hf 0)] (fun U => va_P (dC, dI) vwCl (wF cI hf ad sd aF ms ck aK aA aB aC aP aV aN n aM aS mm lv) U.heap ∧ va_K (dC, dI) vwCl [(cI, .int)] U)) (vp_Si (fun r => r = nI n)) 0 0 (fun _ => False) := by
  refine Met.ofW (cc := cX4_terms) (maxL := 1) (ret := (some .int)) (by decide) rfl ?_
  intro p e s m args below meth c s₁ B hml hv
  obtain ⟨rfl, hP, hK⟩ := hv
  have hx := B.exec
  have hb := B.bytes
  have hr := B.returns
  have hts := atoms_spec (ws := wsX4_terms) B.pre
  have hown : s.vm.findClass RX4 = some m.cls := findClass_of_methodNamed B.named
  have hlocks := B.notSynchronized
  have hl := lv_entry ([.ref (hf 0)]) (n := 1) (Nat.le_of_ble_eq_true rfl)
  rw [lg_entry_eq]
  generalize (lg_sl ([.ref (hf 0)]) ++ List.replicate (1 - (lg_sl ([.ref (hf 0)])).length) Slot.unset).toArray = ls at hl ⊢
  have hl : lv_has ls 1 [(0, .ref (hf 0))] := hl
  refine lv_aload_n hx hb dX4_terms_0 rfl (lv_at hl 0 rfl) ?_
  refine va_get (D := (dC, dI)) (ci := 2) (v := .ref (ad 0)) (C := RX4) (T := TX4) (N := 5) hx hb hts (fun w h => List.mem_cons_of_mem _ (wf_X4 w h)) hown hK hP 0 rfl rfl 0 (by decide) (hts _ (List.mem_cons_of_mem _ wm_fl_X4_10)) (fun _ h9 => h9) rfl dX4_terms_1 ?_
  refine vp_callSi (W.runV (C := RX3) (b := ad 0) (As := []) (rest := []) ⟨hx, hb, hml, hown, hts⟩ (ctX3_count l dC dI cI ad aK aA aB aC aP aV aN n) (cwV 0 hts (wA_wsV wm_ml_X4_129 wm_im_X3_count wm_se_X3_count wm_in_X3 wm_cd_X3_count) rfl rfl rfl (by decide +kernel) ⟨Nat.le_of_ble_eq_true rfl, Nat.le_of_ble_eq_true rfl⟩) ⟨fun a U g mk q => by obtain ⟨q0, qP, qK⟩ := q; exact ⟨q0, qP, va_K.moved (u := U) (U := U.calling g mk a) (Vm.Alike.refl U.vm) qK⟩, va_recv (q := (RX3, TX3, 8)) (q0 := 2) hK hP rfl rfl, fun U hU hW => ⟨rfl, by rw [hU]; exact (hP.sub (ws' := wT cI ad aK aA aB aC aP aV aN n) [2, 3, 4, 5, 6, 7, 8, 9] rfl), va_K.moved hW.alike hK⟩⟩ rfl rfl hl.1 rfl (lv_room (Nat.le_of_ble_eq_true rfl)) dX4_terms_4 ⟨Nat.zero_le _, Nat.zero_le _⟩) (fun r1 er1 => ?_)
  subst er1
  exact W.iret (v := nI n) hx hb hr (fun t9 ht9 hW9 => ⟨nI n, rfl, rfl, ht9⟩) (fun q hq => by cases hq) dX4_terms_7
set_option maxHeartbeats 4000000 in
set_option maxRecDepth 100000 in
theorem ctX4_claims  : Met l yX4_claims wsX4_claims ({ frames := 1, cells := 0, slots := 0, locals := 20 }) (va_Pc [.ref (hf 0)] (fun U => va_P (dC, dI) vwCl (wF cI hf ad sd aF ms ck aK aA aB aC aP aV aN n aM aS mm lv) U.heap ∧ va_K (dC, dI) vwCl [(cI, .int)] U)) (vp_Si (fun r => r = nI mm)) 0 0 (fun _ => False) := by
  refine Met.ofW (cc := cX4_claims) (maxL := 1) (ret := (some .int)) (by decide) rfl ?_
  intro p e s m args below meth c s₁ B hml hv
  obtain ⟨rfl, hP, hK⟩ := hv
  have hx := B.exec
  have hb := B.bytes
  have hr := B.returns
  have hts := atoms_spec (ws := wsX4_claims) B.pre
  have hown : s.vm.findClass RX4 = some m.cls := findClass_of_methodNamed B.named
  have hlocks := B.notSynchronized
  have hl := lv_entry ([.ref (hf 0)]) (n := 1) (Nat.le_of_ble_eq_true rfl)
  rw [lg_entry_eq]
  generalize (lg_sl ([.ref (hf 0)]) ++ List.replicate (1 - (lg_sl ([.ref (hf 0)])).length) Slot.unset).toArray = ls at hl ⊢
  have hl : lv_has ls 1 [(0, .ref (hf 0))] := hl
  refine lv_aload_n hx hb dX4_claims_0 rfl (lv_at hl 0 rfl) ?_
  refine va_get (D := (dC, dI)) (ci := 2) (v := .ref (sd 0)) (C := RX4) (T := TX4) (N := 5) hx hb hts (fun w h => List.mem_cons_of_mem _ (wf_X4 w h)) hown hK hP 0 rfl rfl 1 (by decide) (hts _ (List.mem_cons_of_mem _ wm_fl_X4_19)) (fun _ h9 => h9) rfl dX4_claims_1 ?_
  refine vp_callSi (W.runV (C := RX0) (b := sd 0) (As := []) (rest := []) ⟨hx, hb, hml, hown, hts⟩ (ctX0_count l dC dI cI sd aM aS mm lv) (cwV 0 hts (wA_wsV wm_ml_X4_132 wm_im_X0_count wm_se_X0_count wm_in_X0 wm_cd_X0_count) rfl rfl rfl (by decide +kernel) ⟨Nat.le_of_ble_eq_true rfl, Nat.le_of_ble_eq_true rfl⟩) ⟨fun a U g mk q => by obtain ⟨q0, qP, qK⟩ := q; exact ⟨q0, qP, va_K.moved (u := U) (U := U.calling g mk a) (Vm.Alike.refl U.vm) qK⟩, va_recv (q := (RX0, TX0, 4)) (q0 := 10) hK hP rfl rfl, fun U hU hW => ⟨rfl, by rw [hU]; exact (hP.sub (ws' := wS cI sd aM aS mm lv) [10, 11, 12] rfl), va_K.moved hW.alike hK⟩⟩ rfl rfl hl.1 rfl (lv_room (Nat.le_of_ble_eq_true rfl)) dX4_claims_4 ⟨Nat.zero_le _, Nat.zero_le _⟩) (fun r1 er1 => ?_)
  subst er1
  exact W.iret (v := nI mm) hx hb hr (fun t9 ht9 hW9 => ⟨nI mm, rfl, rfl, ht9⟩) (fun q hq => by cases hq) dX4_claims_7
set_option maxHeartbeats 4000000 in
set_option maxRecDepth 100000 in
theorem ctX4_level  : Met l yX4_level wsX4_level ({ frames := 1, cells := 0, slots := 0, locals := 20 }) (va_Pc [.ref (hf 0)] (fun U => va_P (dC, dI) vwCl (wF cI hf ad sd aF ms ck aK aA aB aC aP aV aN n aM aS mm lv) U.heap ∧ va_K (dC, dI) vwCl [(cI, .int)] U)) (vp_Si (fun r => r = nI lv)) 0 0 (fun _ => False) := by
  refine Met.ofW (cc := cX4_level) (maxL := 1) (ret := (some .int)) (by decide) rfl ?_
  intro p e s m args below meth c s₁ B hml hv
  obtain ⟨rfl, hP, hK⟩ := hv
  have hx := B.exec
  have hb := B.bytes
  have hr := B.returns
  have hts := atoms_spec (ws := wsX4_level) B.pre
  have hown : s.vm.findClass RX4 = some m.cls := findClass_of_methodNamed B.named
  have hlocks := B.notSynchronized
  have hl := lv_entry ([.ref (hf 0)]) (n := 1) (Nat.le_of_ble_eq_true rfl)
  rw [lg_entry_eq]
  generalize (lg_sl ([.ref (hf 0)]) ++ List.replicate (1 - (lg_sl ([.ref (hf 0)])).length) Slot.unset).toArray = ls at hl ⊢
  have hl : lv_has ls 1 [(0, .ref (hf 0))] := hl
  refine lv_aload_n hx hb dX4_level_0 rfl (lv_at hl 0 rfl) ?_
  refine va_get (D := (dC, dI)) (ci := 2) (v := .ref (sd 0)) (C := RX4) (T := TX4) (N := 5) hx hb hts (fun w h => List.mem_cons_of_mem _ (wf_X4 w h)) hown hK hP 0 rfl rfl 1 (by decide) (hts _ (List.mem_cons_of_mem _ wm_fl_X4_19)) (fun _ h9 => h9) rfl dX4_level_1 ?_
  refine vp_callSi (W.runV (C := RX0) (b := sd 0) (As := []) (rest := []) ⟨hx, hb, hml, hown, hts⟩ (ctX0_top l dC dI cI sd aM aS mm lv) (cwV 0 hts (wA_wsV wm_ml_X4_83 wm_im_X0_top wm_se_X0_top wm_in_X0 wm_cd_X0_top) rfl rfl rfl (by decide +kernel) ⟨Nat.le_of_ble_eq_true rfl, Nat.le_of_ble_eq_true rfl⟩) ⟨fun a U g mk q => by obtain ⟨q0, qP, qK⟩ := q; exact ⟨q0, qP, va_K.moved (u := U) (U := U.calling g mk a) (Vm.Alike.refl U.vm) qK⟩, va_recv (q := (RX0, TX0, 4)) (q0 := 10) hK hP rfl rfl, fun U hU hW => ⟨rfl, by rw [hU]; exact (hP.sub (ws' := wS cI sd aM aS mm lv) [10, 11, 12] rfl), va_K.moved hW.alike hK⟩⟩ rfl rfl hl.1 rfl (lv_room (Nat.le_of_ble_eq_true rfl)) dX4_level_4 ⟨Nat.zero_le _, Nat.zero_le _⟩) (fun r1 er1 => ?_)
  subst er1
  exact W.iret (v := nI lv) hx hb hr (fun t9 ht9 hW9 => ⟨nI lv, rfl, rfl, ht9⟩) (fun q hq => by cases hq) dX4_level_7
set_option maxHeartbeats 4000000 in
set_option maxRecDepth 100000 in
theorem ctX4_checks  : Met l yX4_checks wsX4_checks ({ frames := 0, cells := 0, slots := 0, locals := 0 }) (va_Pc [.ref (hf 0)] (fun U => va_P (dC, dI) vwCl (wF cI hf ad sd aF ms ck aK aA aB aC aP aV aN n aM aS mm lv) U.heap ∧ va_K (dC, dI) vwCl [(cI, .int)] U)) (vp_Si (fun r => r = ck)) 0 0 (fun _ => False) := by
  refine Met.ofW (cc := cX4_checks) (maxL := 1) (ret := (some .int)) (by decide) rfl ?_
  intro p e s m args below meth c s₁ B hml hv
  obtain ⟨rfl, hP, hK⟩ := hv
  have hx := B.exec
  have hb := B.bytes
  have hr := B.returns
  have hts := atoms_spec (ws := wsX4_checks) B.pre
  have hown : s.vm.findClass RX4 = some m.cls := findClass_of_methodNamed B.named
  have hlocks := B.notSynchronized
  have hl := lv_entry ([.ref (hf 0)]) (n := 1) (Nat.le_of_ble_eq_true rfl)
  rw [lg_entry_eq]
  generalize (lg_sl ([.ref (hf 0)]) ++ List.replicate (1 - (lg_sl ([.ref (hf 0)])).length) Slot.unset).toArray = ls at hl ⊢
  have hl : lv_has ls 1 [(0, .ref (hf 0))] := hl
  refine lv_aload_n hx hb dX4_checks_0 rfl (lv_at hl 0 rfl) ?_
  refine va_get (D := (dC, dI)) (ci := 2) (v := .int ck) (C := RX4) (T := TX4) (N := 5) hx hb hts (fun w h => List.mem_cons_of_mem _ (wf_X4 w h)) hown hK hP 0 rfl rfl 4 (by decide) (hts _ (List.mem_cons_of_mem _ wm_fl_X4_31)) (fun _ h9 => h9) rfl dX4_checks_1 ?_
  exact W.iret (v := ck) hx hb hr (fun t9 ht9 hW9 => ⟨ck, rfl, rfl, ht9⟩) (fun q hq => by cases hq) dX4_checks_4
end FS1
