/-! the reference's cells: its object, then kindOf, first, second, third, claimed, under, numbers, worth -/
abbrev wM (cI : ClassId) (ad : Nat → Nat) (aK aA aB aC aM aS aF aN : Nat → Int32) (th ck fo : Int32) (n mm lv : Nat) : va_W :=
  [(ad 0, .inr (3, [.int th, .int (nI n), .ref (ad 1), .ref (ad 2), .ref (ad 3), .ref (ad 4), .int (nI mm), .ref (ad 5), .int (nI lv), .ref (ad 6), .int ck, .int fo, .ref (ad 7), .ref (ad 8)])), (ad 1, .inl (cI, 12, .inl aK)), (ad 2, .inl (cI, 12, .inl aA)), (ad 3, .inl (cI, 12, .inl aB)), (ad 4, .inl (cI, 12, .inl aC)), (ad 5, .inl (cI, 20, .inl aM)), (ad 6, .inl (cI, 6, .inl aS)), (ad 7, .inl (cI, 2, .inl aF)), (ad 8, .inl (cI, 12, .inl aN))]
theorem pm_out_y {j n : Nat} (hn : n ≤ 2560) (h : j < n) : pm_out (nI j) (nI n) = 0 := by
  unfold pm_out
  rw [if_neg (nI_pos (by omega)), if_neg (nI_ge h (by omega))]
theorem pm_out_no {x : Int32} {n : Nat} (hn : n ≤ 2560) (h : ¬ ∃ j, j < n ∧ x = nI j) : pm_out x (nI n) = 1 := by
  unfold pm_out
  by_cases h1 : x < 0
  · rw [if_pos h1]
  · rw [if_neg h1]
    by_cases h2 : nI n ≤ x
    · rw [if_pos h2]
    · exact absurd (xh_c hn h1 h2) h
theorem pq_f1 {k : Nat → Nat} {n : Nat} {p : Int32} : pq_fit k n 1 p ↔ ∃ j, j < 2 ∧ p = nI j := by
  unfold pq_fit
  constructor
  · rintro (z | ⟨z, q⟩ | ⟨z, q⟩ | ⟨z, q⟩ | ⟨z, q⟩) <;> first | omega | exact q
  · exact fun q => Or.inr (Or.inl ⟨rfl, q⟩)
theorem pq_f2 {k : Nat → Nat} {n : Nat} {p : Int32} : pq_fit k n 2 p ↔ ∃ j, j < 32 ∧ p = nI j := by
  unfold pq_fit
  constructor
  · rintro (z | ⟨z, q⟩ | ⟨z, q⟩ | ⟨z, q⟩ | ⟨z, q⟩) <;> first | omega | exact q
  · exact fun q => Or.inr (Or.inr (Or.inl ⟨rfl, q⟩))
theorem pq_f3 {k : Nat → Nat} {n : Nat} {p : Int32} : pq_fit k n 3 p ↔ ∃ j, j < n ∧ p = nI j ∧ k j < 10 := by
  unfold pq_fit
  constructor
  · rintro (z | ⟨z, q⟩ | ⟨z, q⟩ | ⟨z, q⟩ | ⟨z, q⟩) <;> first | omega | exact q
  · exact fun q => Or.inr (Or.inr (Or.inr (Or.inl ⟨rfl, q⟩)))
theorem pq_f4 {k : Nat → Nat} {n : Nat} {p : Int32} : pq_fit k n 4 p ↔ ∃ j, j < n ∧ p = nI j ∧ 10 ≤ k j := by
  unfold pq_fit
  constructor
  · rintro (z | ⟨z, q⟩ | ⟨z, q⟩ | ⟨z, q⟩ | ⟨z, q⟩) <;> first | omega | exact q
  · exact fun q => Or.inr (Or.inr (Or.inr (Or.inr ⟨rfl, q⟩)))
theorem pq_f0 {k : Nat → Nat} {n : Nat} {p : Int32} : pq_fit k n 0 p ↔ True := ⟨fun _ => trivial, fun _ => Or.inl rfl⟩
section MD1
variable (l : Launch) (dC : Nat → ClassId) (dI : Nat → Nat → Nat) (cI : ClassId) (ad : Nat → Nat) (aK aA aB aC aM aS aF aN : Nat → Int32) (th ck fo : Int32) (n mm lv : Nat)
set_option maxHeartbeats 4000000 in
set_option maxRecDepth 100000 in
theorem ctX5_thrown  : Met l yX5_thrown wsX5_thrown ({ frames := 0, cells := 0, slots := 0, locals := 0 }) (va_Pc [.ref (ad 0)] (fun U => va_P (dC, dI) vwCl (wM cI ad aK aA aB aC aM aS aF aN th ck fo n mm lv) U.heap ∧ va_K (dC, dI) vwCl [(cI, .int)] U)) (vp_Si (fun r => r = th)) 0 0 (fun _ => False) := by
  refine Met.ofW (cc := cX5_thrown) (maxL := 1) (ret := (some .int)) (by decide) rfl ?_
  intro p e s m args below meth c s₁ B hml hv
  obtain ⟨rfl, hP, hK⟩ := hv
  have hx := B.exec
  have hb := B.bytes
  have hr := B.returns
  have hts := atoms_spec (ws := wsX5_thrown) B.pre
  have hown : s.vm.findClass RX5 = some m.cls := findClass_of_methodNamed B.named
  have hlocks := B.notSynchronized
  have hl := lv_entry ([.ref (ad 0)]) (n := 1) (Nat.le_of_ble_eq_true rfl)
  rw [lg_entry_eq]
  generalize (lg_sl ([.ref (ad 0)]) ++ List.replicate (1 - (lg_sl ([.ref (ad 0)])).length) Slot.unset).toArray = ls at hl ⊢
  have hl : lv_has ls 1 [(0, .ref (ad 0))] := hl
  refine lv_aload_n hx hb dX5_thrown_0 rfl (lv_at hl 0 rfl) ?_
  refine va_get (D := (dC, dI)) (ci := 3) (v := .int th) (C := RX5) (T := TX5) (N := 14) hx hb hts (fun w h => List.mem_cons_of_mem _ (wf_X5 w h)) hown hK hP 0 rfl rfl 0 (by decide) (hts _ (List.mem_cons_of_mem _ wm_fl_X5_34)) (fun _ h9 => h9) rfl dX5_thrown_1 ?_
  exact W.iret (v := th) hx hb hr (fun t9 ht9 hW9 => ⟨th, rfl, rfl, ht9⟩) (fun q hq => by cases hq) dX5_thrown_4
set_option maxHeartbeats 4000000 in
set_option maxRecDepth 100000 in
theorem ctX5_isNumber (hn : n ≤ 12) (fk : Nat → Nat) (hk : ∀ t, t < n → aK t = nI (fk t)) (hk2 : ∀ t, t < n → fk t < 20) (x : Int32) : Met l yX5_isNumber wsX5_isNumber ({ frames := 1, cells := 0, slots := 0, locals := 21 }) (va_Pc [.ref (ad 0), .int x] (fun U => va_P (dC, dI) vwCl (wM cI ad aK aA aB aC aM aS aF aN th ck fo n mm lv) U.heap ∧ va_K (dC, dI) vwCl [(cI, .int)] U)) (vp_Si (fun r => (r = 1 ∧ ∃ j, j < n ∧ x = nI j ∧ fk j < 10) ∨ (r = 0 ∧ ¬ ∃ j, j < n ∧ x = nI j ∧ fk j < 10))) 0 0 (fun _ => False) := by
  refine Met.ofW (cc := cX5_isNumber) (maxL := 2) (ret := (some .boolean)) (by decide) rfl ?_
  intro p e s m args below meth c s₁ B hml hv
  obtain ⟨rfl, hP, hK⟩ := hv
  have hx := B.exec
  have hb := B.bytes
  have hr := B.returns
  have hts := atoms_spec (ws := wsX5_isNumber) B.pre
  have hown : s.vm.findClass RX5 = some m.cls := findClass_of_methodNamed B.named
  have hlocks := B.notSynchronized
  have hl := lv_entry ([.ref (ad 0), .int x]) (n := 2) (Nat.le_of_ble_eq_true rfl)
  rw [lg_entry_eq]
  generalize (lg_sl ([.ref (ad 0), .int x]) ++ List.replicate (2 - (lg_sl ([.ref (ad 0), .int x])).length) Slot.unset).toArray = ls at hl ⊢
  have hl : lv_has ls 2 [(0, .ref (ad 0)), (1, .int x)] := hl
  refine lv_iload_n hx hb dX5_isNumber_0 rfl (lv_at hl 1 rfl) ?_
  refine lv_aload_n hx hb dX5_isNumber_1 rfl (lv_at hl 0 rfl) ?_
  refine va_get (D := (dC, dI)) (ci := 3) (v := .int (nI n)) (C := RX5) (T := TX5) (N := 14) hx hb hts (fun w h => List.mem_cons_of_mem _ (wf_X5 w h)) hown hK hP 0 rfl rfl 1 (by decide) (hts _ (List.mem_cons_of_mem _ wm_fl_X5_76)) (fun _ h9 => h9) rfl dX5_isNumber_2 ?_
  refine vp_callSi (W.runS (As := [.int x, .int (nI n)]) (rest := []) ⟨hx, hb, hml, hown, hts⟩ (ctX5_out l x (nI n)) (va_cwS 2 hts (wA_wsS wm_ml_X5_79 wm_st_X5_out wm_in_X5 wm_cd_X5_out) rfl rfl rfl (by decide +kernel) ⟨Nat.le_of_ble_eq_true rfl, Nat.le_of_ble_eq_true rfl⟩) ⟨fun a U g mk q => q, fun U hU hW => ⟨rfl, trivial⟩⟩ rfl rfl hl.1 rfl (lv_room (Nat.le_of_ble_eq_true rfl)) dX5_isNumber_5 ⟨Nat.zero_le _, Nat.zero_le _⟩) (fun r1 er1 => ?_)
  by_cases hin : ∃ j, j < n ∧ x = nI j
  · obtain ⟨j, hj, rfl⟩ := hin
    have er1 := er1.trans (pm_out_y (n := n) (by omega) hj)
    subst er1
    refine lv_if_ne (tgt := 26) hx hb dX5_isNumber_8 (by decide) (fun h2 => absurd (by decide) h2) (fun _ => ?_)
    refine lv_aload_n hx hb dX5_isNumber_11 rfl (lv_at hl 0 rfl) ?_
    refine va_get (D := (dC, dI)) (ci := 3) (v := .ref (ad 1)) (C := RX5) (T := TX5) (N := 14) hx hb hts (fun w h => List.mem_cons_of_mem _ (wf_X5 w h)) hown hK hP 0 rfl rfl 2 (by decide) (hts _ (List.mem_cons_of_mem _ wm_fl_X5_7)) (fun _ h9 => h9) rfl dX5_isNumber_12 ?_
    refine lv_iload_n hx hb dX5_isNumber_15 rfl (lv_at hl 1 rfl) ?_
    refine xr_iald (t := j) (v := nI (fk j)) hx hb hK hP 1 0 rfl rfl (by omega) (by omega) (hk j (by omega)) dX5_isNumber_16 ?_
    refine lv_bipush (v := nI 10) hx hb dX5_isNumber_17 (by decide) ?_
    refine lv_icmp_ge (tgt := 26) hx hb dX5_isNumber_19 (by decide) (fun h3 => ?_) (fun h3 => ?_)
    · skip
      have hk20 := hk2 j hj
      have h3 : 10 ≤ fk j := (nI_leI (a := 10) (b := (fk j)) (by omega) (by omega)).mp h3
      refine lv_iconst (v := 0) hx hb dX5_isNumber_26 (by decide) ?_
      exact W.zret (v := 0) hx hb hr (rfl) (fun t9 ht9 hW9 => ⟨0, rfl, Or.inr ⟨rfl, fun ⟨i, h1, h2, h3⟩ => by have e := xh_inj (by omega) (by omega) h2; subst e; omega⟩, ht9⟩) (fun q hq => by cases hq) dX5_isNumber_27
    · skip
      have hk20 := hk2 j hj
      have h3 : ¬ 10 ≤ fk j := fun z => h3 ((nI_leI (a := 10) (b := (fk j)) (by omega) (by omega)).mpr z)
      refine lv_iconst (v := 1) hx hb dX5_isNumber_22 (by decide) ?_
      refine lv_goto (tgt := 27) hx hb dX5_isNumber_23 (by decide) ?_
      exact W.zret (v := 1) hx hb hr (rfl) (fun t9 ht9 hW9 => ⟨1, rfl, Or.inl ⟨rfl, j, hj, rfl, by omega⟩, ht9⟩) (fun q hq => by cases hq) dX5_isNumber_27
  · have er1 := er1.trans (pm_out_no (n := n) (by omega) hin)
    subst er1
    refine lv_if_ne (tgt := 26) hx hb dX5_isNumber_8 (by decide) (fun _ => ?_) (fun h4 => absurd h4 (by decide))
    refine lv_iconst (v := 0) hx hb dX5_isNumber_26 (by decide) ?_
    exact W.zret (v := 0) hx hb hr (rfl) (fun t9 ht9 hW9 => ⟨0, rfl, Or.inr ⟨rfl, fun ⟨j, h1, h2, _⟩ => hin ⟨j, h1, h2⟩⟩, ht9⟩) (fun q hq => by cases hq) dX5_isNumber_27
set_option maxHeartbeats 4000000 in
set_option maxRecDepth 100000 in
theorem ctX5_isTruth (hn : n ≤ 12) (fk : Nat → Nat) (hk : ∀ t, t < n → aK t = nI (fk t)) (hk2 : ∀ t, t < n → fk t < 20) (x : Int32) : Met l yX5_isTruth wsX5_isTruth ({ frames := 1, cells := 0, slots := 0, locals := 21 }) (va_Pc [.ref (ad 0), .int x] (fun U => va_P (dC, dI) vwCl (wM cI ad aK aA aB aC aM aS aF aN th ck fo n mm lv) U.heap ∧ va_K (dC, dI) vwCl [(cI, .int)] U)) (vp_Si (fun r => (r = 1 ∧ ∃ j, j < n ∧ x = nI j ∧ 10 ≤ fk j) ∨ (r = 0 ∧ ¬ ∃ j, j < n ∧ x = nI j ∧ 10 ≤ fk j))) 0 0 (fun _ => False) := by
  refine Met.ofW (cc := cX5_isTruth) (maxL := 2) (ret := (some .boolean)) (by decide) rfl ?_
  intro p e s m args below meth c s₁ B hml hv
  obtain ⟨rfl, hP, hK⟩ := hv
  have hx := B.exec
  have hb := B.bytes
  have hr := B.returns
  have hts := atoms_spec (ws := wsX5_isTruth) B.pre
  have hown : s.vm.findClass RX5 = some m.cls := findClass_of_methodNamed B.named
  have hlocks := B.notSynchronized
  have hl := lv_entry ([.ref (ad 0), .int x]) (n := 2) (Nat.le_of_ble_eq_true rfl)
  rw [lg_entry_eq]
  generalize (lg_sl ([.ref (ad 0), .int x]) ++ List.replicate (2 - (lg_sl ([.ref (ad 0), .int x])).length) Slot.unset).toArray = ls at hl ⊢
  have hl : lv_has ls 2 [(0, .ref (ad 0)), (1, .int x)] := hl
  refine lv_iload_n hx hb dX5_isTruth_0 rfl (lv_at hl 1 rfl) ?_
  refine lv_aload_n hx hb dX5_isTruth_1 rfl (lv_at hl 0 rfl) ?_
  refine va_get (D := (dC, dI)) (ci := 3) (v := .int (nI n)) (C := RX5) (T := TX5) (N := 14) hx hb hts (fun w h => List.mem_cons_of_mem _ (wf_X5 w h)) hown hK hP 0 rfl rfl 1 (by decide) (hts _ (List.mem_cons_of_mem _ wm_fl_X5_76)) (fun _ h9 => h9) rfl dX5_isTruth_2 ?_
  refine vp_callSi (W.runS (As := [.int x, .int (nI n)]) (rest := []) ⟨hx, hb, hml, hown, hts⟩ (ctX5_out l x (nI n)) (va_cwS 2 hts (wA_wsS wm_ml_X5_79 wm_st_X5_out wm_in_X5 wm_cd_X5_out) rfl rfl rfl (by decide +kernel) ⟨Nat.le_of_ble_eq_true rfl, Nat.le_of_ble_eq_true rfl⟩) ⟨fun a U g mk q => q, fun U hU hW => ⟨rfl, trivial⟩⟩ rfl rfl hl.1 rfl (lv_room (Nat.le_of_ble_eq_true rfl)) dX5_isTruth_5 ⟨Nat.zero_le _, Nat.zero_le _⟩) (fun r1 er1 => ?_)
  by_cases hin : ∃ j, j < n ∧ x = nI j
  · obtain ⟨j, hj, rfl⟩ := hin
    have er1 := er1.trans (pm_out_y (n := n) (by omega) hj)
    subst er1
    refine lv_if_ne (tgt := 26) hx hb dX5_isTruth_8 (by decide) (fun h2 => absurd (by decide) h2) (fun _ => ?_)
    refine lv_aload_n hx hb dX5_isTruth_11 rfl (lv_at hl 0 rfl) ?_
    refine va_get (D := (dC, dI)) (ci := 3) (v := .ref (ad 1)) (C := RX5) (T := TX5) (N := 14) hx hb hts (fun w h => List.mem_cons_of_mem _ (wf_X5 w h)) hown hK hP 0 rfl rfl 2 (by decide) (hts _ (List.mem_cons_of_mem _ wm_fl_X5_7)) (fun _ h9 => h9) rfl dX5_isTruth_12 ?_
    refine lv_iload_n hx hb dX5_isTruth_15 rfl (lv_at hl 1 rfl) ?_
    refine xr_iald (t := j) (v := nI (fk j)) hx hb hK hP 1 0 rfl rfl (by omega) (by omega) (hk j (by omega)) dX5_isTruth_16 ?_
    refine lv_bipush (v := nI 10) hx hb dX5_isTruth_17 (by decide) ?_
    refine lv_icmp_lt (tgt := 26) hx hb dX5_isTruth_19 (by decide) (fun h3 => ?_) (fun h3 => ?_)
    · skip
      have hk20 := hk2 j hj
      have h3 : fk j < 10 := (nI_ltI (a := (fk j)) (b := 10) (by omega) (by omega)).mp h3
      refine lv_iconst (v := 0) hx hb dX5_isTruth_26 (by decide) ?_
      exact W.zret (v := 0) hx hb hr (rfl) (fun t9 ht9 hW9 => ⟨0, rfl, Or.inr ⟨rfl, fun ⟨i, h1, h2, h3⟩ => by have e := xh_inj (by omega) (by omega) h2; subst e; omega⟩, ht9⟩) (fun q hq => by cases hq) dX5_isTruth_27
    · skip
      have hk20 := hk2 j hj
      have h3 : ¬ fk j < 10 := fun z => h3 ((nI_ltI (a := (fk j)) (b := 10) (by omega) (by omega)).mpr z)
      refine lv_iconst (v := 1) hx hb dX5_isTruth_22 (by decide) ?_
      refine lv_goto (tgt := 27) hx hb dX5_isTruth_23 (by decide) ?_
      exact W.zret (v := 1) hx hb hr (rfl) (fun t9 ht9 hW9 => ⟨1, rfl, Or.inl ⟨rfl, j, hj, rfl, by omega⟩, ht9⟩) (fun q hq => by cases hq) dX5_isTruth_27
  · have er1 := er1.trans (pm_out_no (n := n) (by omega) hin)
    subst er1
    refine lv_if_ne (tgt := 26) hx hb dX5_isTruth_8 (by decide) (fun _ => ?_) (fun h4 => absurd h4 (by decide))
    refine lv_iconst (v := 0) hx hb dX5_isTruth_26 (by decide) ?_
    exact W.zret (v := 0) hx hb hr (rfl) (fun t9 ht9 hW9 => ⟨0, rfl, Or.inr ⟨rfl, fun ⟨j, h1, h2, _⟩ => hin ⟨j, h1, h2⟩⟩, ht9⟩) (fun q hq => by cases hq) dX5_isTruth_27
set_option maxHeartbeats 4000000 in
set_option maxRecDepth 100000 in
theorem ctX5_fits (hn : n ≤ 12) (fk : Nat → Nat) (hk : ∀ t, t < n → aK t = nI (fk t)) (hk2 : ∀ t, t < n → fk t < 20) (kd a0 b0 c0 : Int32) : Met l yX5_fits wsX5_fits ({ frames := 2, cells := 0, slots := 0, locals := 42 }) (va_Pc [.ref (ad 0), .int kd, .int a0, .int b0, .int c0] (fun U => va_P (dC, dI) vwCl (wM cI ad aK aA aB aC aM aS aF aN th ck fo n mm lv) U.heap ∧ va_K (dC, dI) vwCl [(cI, .int)] U)) (vp_Si (fun r => (r = 1 ∧ pq_alw fk n kd a0 b0 c0) ∨ (r = 0 ∧ ¬ pq_alw fk n kd a0 b0 c0))) 0 0 (fun _ => False) := by
  refine Met.ofW (cc := cX5_fits) (maxL := 5) (ret := (some .boolean)) (by decide) rfl ?_
  intro p e s m args below meth c s₁ B hml hv
  obtain ⟨rfl, hP, hK⟩ := hv
  have hx := B.exec
  have hb := B.bytes
  have hr := B.returns
  have hts := atoms_spec (ws := wsX5_fits) B.pre
  have hown : s.vm.findClass RX5 = some m.cls := findClass_of_methodNamed B.named
  have hlocks := B.notSynchronized
  have hl := lv_entry ([.ref (ad 0), .int kd, .int a0, .int b0, .int c0]) (n := 5) (Nat.le_of_ble_eq_true rfl)
  rw [lg_entry_eq]
  generalize (lg_sl ([.ref (ad 0), .int kd, .int a0, .int b0, .int c0]) ++ List.replicate (5 - (lg_sl ([.ref (ad 0), .int kd, .int a0, .int b0, .int c0])).length) Slot.unset).toArray = ls at hl ⊢
  have hl : lv_has ls 5 [(0, .ref (ad 0)), (1, .int kd), (2, .int a0), (3, .int b0), (4, .int c0)] := hl
  refine lv_iload_n hx hb dX5_fits_0 rfl (lv_at hl 1 rfl) ?_
  refine lv_bipush (v := nI 20) hx hb dX5_fits_1 (by decide) ?_
  refine vp_callSi (W.runS (As := [.int kd, .int (nI 20)]) (rest := []) ⟨hx, hb, hml, hown, hts⟩ (ctX5_out l kd (nI 20)) (va_cwS 2 hts (wA_wsS wm_ml_X5_79 wm_st_X5_out wm_in_X5 wm_cd_X5_out) rfl rfl rfl (by decide +kernel) ⟨Nat.le_of_ble_eq_true rfl, Nat.le_of_ble_eq_true rfl⟩) ⟨fun a U g mk q => q, fun U hU hW => ⟨rfl, trivial⟩⟩ rfl rfl hl.1 rfl (lv_room (Nat.le_of_ble_eq_true rfl)) dX5_fits_3 ⟨Nat.zero_le _, Nat.zero_le _⟩) (fun r1 er1 => ?_)
  by_cases h20 : ∃ κ, κ < 20 ∧ kd = nI κ
  · obtain ⟨κ, hκ, rfl⟩ := h20
    have er1 := er1.trans (pm_out_y (n := 20) (by omega) hκ)
    subst er1
    rcases (show κ = 0 ∨ κ = 1 ∨ κ = 2 ∨ κ = 3 ∨ κ = 4 ∨ κ = 5 ∨ κ = 6 ∨ κ = 7 ∨ κ = 8 ∨ κ = 9 ∨ κ = 10 ∨ κ = 11 ∨ κ = 12 ∨ κ = 13 ∨ κ = 14 ∨ κ = 15 ∨ κ = 16 ∨ κ = 17 ∨ κ = 18 ∨ κ = 19 by omega) with rfl | rfl | rfl | rfl | rfl | rfl | rfl | rfl | rfl | rfl | rfl | rfl | rfl | rfl | rfl | rfl | rfl | rfl | rfl | rfl
    · skip
      refine lv_if_eq (tgt := 11) hx hb dX5_fits_6 (by decide) (fun _ => ?_) (fun h2 => absurd (by decide) h2)
      refine lv_iload_n hx hb dX5_fits_11 rfl (lv_at hl 1 rfl) ?_
      refine lv_if_ne (tgt := 29) hx hb dX5_fits_12 (by decide) (fun h3 => absurd (by decide) h3) (fun _ => ?_)
      refine lv_iload_n hx hb dX5_fits_15 rfl (lv_at hl 2 rfl) ?_
      refine lv_iconst (v := nI 2) hx hb dX5_fits_16 (by decide) ?_
      refine vp_callSi (W.runS (As := [.int a0, .int (nI 2)]) (rest := []) ⟨hx, hb, hml, hown, hts⟩ (ctX5_out l a0 (nI 2)) (va_cwS 2 hts (wA_wsS wm_ml_X5_79 wm_st_X5_out wm_in_X5 wm_cd_X5_out) rfl rfl rfl (by decide +kernel) ⟨Nat.le_of_ble_eq_true rfl, Nat.le_of_ble_eq_true rfl⟩) ⟨fun a U g mk q => q, fun U hU hW => ⟨rfl, trivial⟩⟩ rfl rfl hl.1 rfl (lv_room (Nat.le_of_ble_eq_true rfl)) dX5_fits_17 ⟨Nat.zero_le _, Nat.zero_le _⟩) (fun r4 er4 => ?_)
      by_cases hin : ∃ j, j < 2 ∧ a0 = nI j
      · have er4 := er4.trans (by obtain ⟨j, hj, rfl⟩ := hin; exact pm_out_y (n := 2) (by omega) hj)
        subst er4
        refine lv_if_ne (tgt := 27) hx hb dX5_fits_20 (by decide) (fun h5 => absurd (by decide) h5) (fun _ => ?_)
        refine lv_iconst (v := 1) hx hb dX5_fits_23 (by decide) ?_
        refine lv_goto (tgt := 28) hx hb dX5_fits_24 (by decide) ?_
        exact W.zret (v := 1) hx hb hr (rfl) (fun t9 ht9 hW9 => ⟨1, rfl, Or.inl ⟨rfl, (pq_alw_n (κ := 0) (by omega)).mpr ⟨pq_f1.mpr hin, Or.inl rfl, Or.inl rfl⟩⟩, ht9⟩) (fun q hq => by cases hq) dX5_fits_28
      · have er4 := er4.trans (pm_out_no (n := 2) (by omega) hin)
        subst er4
        refine lv_if_ne (tgt := 27) hx hb dX5_fits_20 (by decide) (fun _ => ?_) (fun h6 => absurd h6 (by decide))
        refine lv_iconst (v := 0) hx hb dX5_fits_27 (by decide) ?_
        exact W.zret (v := 0) hx hb hr (rfl) (fun t9 ht9 hW9 => ⟨0, rfl, Or.inr ⟨rfl, fun z => hin (pq_f1.mp ((pq_alw_n (κ := 0) (by omega)).mp z).1)⟩, ht9⟩) (fun q hq => by cases hq) dX5_fits_28
    · skip
      refine lv_if_eq (tgt := 11) hx hb dX5_fits_6 (by decide) (fun _ => ?_) (fun h7 => absurd (by decide) h7)
      refine lv_iload_n hx hb dX5_fits_11 rfl (lv_at hl 1 rfl) ?_
      refine lv_if_ne (tgt := 29) hx hb dX5_fits_12 (by decide) (fun _ => ?_) (fun h8 => absurd h8 (by decide))
      refine lv_iload_n hx hb dX5_fits_29 rfl (lv_at hl 1 rfl) ?_
      refine lv_iconst (v := 1) hx hb dX5_fits_30 (by decide) ?_
      refine lv_icmp_ne (tgt := 49) hx hb dX5_fits_31 (by decide) (fun h9 => absurd (by decide) h9) (fun _ => ?_)
      refine lv_iload_n hx hb dX5_fits_34 rfl (lv_at hl 2 rfl) ?_
      refine lv_bipush (v := nI 32) hx hb dX5_fits_35 (by decide) ?_
      refine vp_callSi (W.runS (As := [.int a0, .int (nI 32)]) (rest := []) ⟨hx, hb, hml, hown, hts⟩ (ctX5_out l a0 (nI 32)) (va_cwS 2 hts (wA_wsS wm_ml_X5_79 wm_st_X5_out wm_in_X5 wm_cd_X5_out) rfl rfl rfl (by decide +kernel) ⟨Nat.le_of_ble_eq_true rfl, Nat.le_of_ble_eq_true rfl⟩) ⟨fun a U g mk q => q, fun U hU hW => ⟨rfl, trivial⟩⟩ rfl rfl hl.1 rfl (lv_room (Nat.le_of_ble_eq_true rfl)) dX5_fits_37 ⟨Nat.zero_le _, Nat.zero_le _⟩) (fun r10 er10 => ?_)
      by_cases hin : ∃ j, j < 32 ∧ a0 = nI j
      · have er10 := er10.trans (by obtain ⟨j, hj, rfl⟩ := hin; exact pm_out_y (n := 32) (by omega) hj)
        subst er10
        refine lv_if_ne (tgt := 47) hx hb dX5_fits_40 (by decide) (fun h11 => absurd (by decide) h11) (fun _ => ?_)
        refine lv_iconst (v := 1) hx hb dX5_fits_43 (by decide) ?_
        refine lv_goto (tgt := 48) hx hb dX5_fits_44 (by decide) ?_
        exact W.zret (v := 1) hx hb hr (rfl) (fun t9 ht9 hW9 => ⟨1, rfl, Or.inl ⟨rfl, (pq_alw_n (κ := 1) (by omega)).mpr ⟨pq_f2.mpr hin, Or.inl rfl, Or.inl rfl⟩⟩, ht9⟩) (fun q hq => by cases hq) dX5_fits_48
      · have er10 := er10.trans (pm_out_no (n := 32) (by omega) hin)
        subst er10
        refine lv_if_ne (tgt := 47) hx hb dX5_fits_40 (by decide) (fun _ => ?_) (fun h12 => absurd h12 (by decide))
        refine lv_iconst (v := 0) hx hb dX5_fits_47 (by decide) ?_
        exact W.zret (v := 0) hx hb hr (rfl) (fun t9 ht9 hW9 => ⟨0, rfl, Or.inr ⟨rfl, fun z => hin (pq_f2.mp ((pq_alw_n (κ := 1) (by omega)).mp z).1)⟩, ht9⟩) (fun q hq => by cases hq) dX5_fits_48
    · skip
      refine lv_if_eq (tgt := 11) hx hb dX5_fits_6 (by decide) (fun _ => ?_) (fun h13 => absurd (by decide) h13)
      refine lv_iload_n hx hb dX5_fits_11 rfl (lv_at hl 1 rfl) ?_
      refine lv_if_ne (tgt := 29) hx hb dX5_fits_12 (by decide) (fun _ => ?_) (fun h14 => absurd h14 (by decide))
      refine lv_iload_n hx hb dX5_fits_29 rfl (lv_at hl 1 rfl) ?_
      refine lv_iconst (v := 1) hx hb dX5_fits_30 (by decide) ?_
      refine lv_icmp_ne (tgt := 49) hx hb dX5_fits_31 (by decide) (fun _ => ?_) (fun h15 => absurd h15 (by decide))
      refine lv_iload_n hx hb dX5_fits_49 rfl (lv_at hl 1 rfl) ?_
      refine lv_bipush (v := nI 9) hx hb dX5_fits_50 (by decide) ?_
      refine lv_icmp_ne (tgt := 86) hx hb dX5_fits_52 (by decide) (fun _ => ?_) (fun h16 => absurd h16 (by decide))
      refine lv_iload_n hx hb dX5_fits_86 rfl (lv_at hl 1 rfl) ?_
      refine lv_bipush (v := nI 17) hx hb dX5_fits_87 (by decide) ?_
      refine lv_icmp_lt (tgt := 120) hx hb dX5_fits_89 (by decide) (fun _ => ?_) (fun h17 => absurd (by decide) h17)
      refine lv_aload_n hx hb dX5_fits_120 rfl (lv_at hl 0 rfl) ?_
      refine lv_iload_n hx hb dX5_fits_121 rfl (lv_at hl 2 rfl) ?_
      refine vp_callSi (W.runV (C := RX5) (b := ad 0) (As := [.int a0]) (rest := []) ⟨hx, hb, hml, hown, hts⟩ (ctX5_isNumber l dC dI cI ad aK aA aB aC aM aS aF aN th ck fo n mm lv hn fk hk hk2 a0) (cwV 1 hts (wA_wsV wm_ml_X5_85 wm_im_X5_isNumber wm_se_X5_isNumber wm_in_X5 wm_cd_X5_isNumber) rfl rfl rfl (by decide +kernel) ⟨Nat.le_of_ble_eq_true rfl, Nat.le_of_ble_eq_true rfl⟩) ⟨fun a U g mk q => by obtain ⟨q0, qP, qK⟩ := q; exact ⟨q0, qP, va_K.moved (u := U) (U := U.calling g mk a) (Vm.Alike.refl U.vm) qK⟩, va_recv (q := (RX5, TX5, 14)) (q0 := 0) hK hP rfl rfl, fun U hU hW => ⟨rfl, by rw [hU]; exact hP, va_K.moved hW.alike hK⟩⟩ rfl rfl hl.1 rfl (lv_room (Nat.le_of_ble_eq_true rfl)) dX5_fits_122 ⟨Nat.zero_le _, Nat.zero_le _⟩) (fun r18 er18 => ?_)
      rcases er18 with ⟨rfl, hr18⟩ | ⟨rfl, hr18⟩
      · skip
        refine lv_if_eq (tgt := 148) hx hb dX5_fits_125 (by decide) (fun h19 => absurd h19 (by decide)) (fun _ => ?_)
        refine lv_iload_n hx hb dX5_fits_128 rfl (lv_at hl 1 rfl) ?_
        refine vp_callSi (W.runS (As := [.int (nI 2)]) (rest := []) ⟨hx, hb, hml, hown, hts⟩ (ctX5_names l (nI 2)) (va_cwS 1 hts (wA_wsS wm_ml_X5_88 wm_st_X5_names wm_in_X5 wm_cd_X5_names) rfl rfl rfl (by decide +kernel) ⟨Nat.le_of_ble_eq_true rfl, Nat.le_of_ble_eq_true rfl⟩) ⟨fun a U g mk q => q, fun U hU hW => ⟨rfl, trivial⟩⟩ rfl rfl hl.1 rfl (lv_room (Nat.le_of_ble_eq_true rfl)) dX5_fits_129 ⟨Nat.zero_le _, Nat.zero_le _⟩) (fun r20 er20 => ?_)
        have er20 := er20.trans (show pm_nms (nI 2) = 1 by decide +kernel)
        subst er20
        refine lv_iconst (v := 1) hx hb dX5_fits_132 (by decide) ?_
        refine lv_icmp_eq (tgt := 144) hx hb dX5_fits_133 (by decide) (fun _ => ?_) (fun h21 => absurd (by decide) h21)
        refine lv_iconst (v := 1) hx hb dX5_fits_144 (by decide) ?_
        refine lv_goto (tgt := 149) hx hb dX5_fits_145 (by decide) ?_
        exact W.zret (v := 1) hx hb hr (rfl) (fun t9 ht9 hW9 => ⟨1, rfl, Or.inl ⟨rfl, (pq_alw_n (κ := 2) (by omega)).mpr ⟨pq_f3.mpr hr18, Or.inl rfl, Or.inl rfl⟩⟩, ht9⟩) (fun q hq => by cases hq) dX5_fits_149
      · skip
        refine lv_if_eq (tgt := 148) hx hb dX5_fits_125 (by decide) (fun _ => ?_) (fun h22 => absurd (by decide) h22)
        refine lv_iconst (v := 0) hx hb dX5_fits_148 (by decide) ?_
        exact W.zret (v := 0) hx hb hr (rfl) (fun t9 ht9 hW9 => ⟨0, rfl, Or.inr ⟨rfl, fun z => hr18 (pq_f3.mp ((pq_alw_n (κ := 2) (by omega)).mp z).1)⟩, ht9⟩) (fun q hq => by cases hq) dX5_fits_149
    · skip
      refine lv_if_eq (tgt := 11) hx hb dX5_fits_6 (by decide) (fun _ => ?_) (fun h23 => absurd (by decide) h23)
      refine lv_iload_n hx hb dX5_fits_11 rfl (lv_at hl 1 rfl) ?_
      refine lv_if_ne (tgt := 29) hx hb dX5_fits_12 (by decide) (fun _ => ?_) (fun h24 => absurd h24 (by decide))
      refine lv_iload_n hx hb dX5_fits_29 rfl (lv_at hl 1 rfl) ?_
      refine lv_iconst (v := 1) hx hb dX5_fits_30 (by decide) ?_
      refine lv_icmp_ne (tgt := 49) hx hb dX5_fits_31 (by decide) (fun _ => ?_) (fun h25 => absurd h25 (by decide))
      refine lv_iload_n hx hb dX5_fits_49 rfl (lv_at hl 1 rfl) ?_
      refine lv_bipush (v := nI 9) hx hb dX5_fits_50 (by decide) ?_
      refine lv_icmp_ne (tgt := 86) hx hb dX5_fits_52 (by decide) (fun _ => ?_) (fun h26 => absurd h26 (by decide))
      refine lv_iload_n hx hb dX5_fits_86 rfl (lv_at hl 1 rfl) ?_
      refine lv_bipush (v := nI 17) hx hb dX5_fits_87 (by decide) ?_
      refine lv_icmp_lt (tgt := 120) hx hb dX5_fits_89 (by decide) (fun _ => ?_) (fun h27 => absurd (by decide) h27)
      refine lv_aload_n hx hb dX5_fits_120 rfl (lv_at hl 0 rfl) ?_
      refine lv_iload_n hx hb dX5_fits_121 rfl (lv_at hl 2 rfl) ?_
      refine vp_callSi (W.runV (C := RX5) (b := ad 0) (As := [.int a0]) (rest := []) ⟨hx, hb, hml, hown, hts⟩ (ctX5_isNumber l dC dI cI ad aK aA aB aC aM aS aF aN th ck fo n mm lv hn fk hk hk2 a0) (cwV 1 hts (wA_wsV wm_ml_X5_85 wm_im_X5_isNumber wm_se_X5_isNumber wm_in_X5 wm_cd_X5_isNumber) rfl rfl rfl (by decide +kernel) ⟨Nat.le_of_ble_eq_true rfl, Nat.le_of_ble_eq_true rfl⟩) ⟨fun a U g mk q => by obtain ⟨q0, qP, qK⟩ := q; exact ⟨q0, qP, va_K.moved (u := U) (U := U.calling g mk a) (Vm.Alike.refl U.vm) qK⟩, va_recv (q := (RX5, TX5, 14)) (q0 := 0) hK hP rfl rfl, fun U hU hW => ⟨rfl, by rw [hU]; exact hP, va_K.moved hW.alike hK⟩⟩ rfl rfl hl.1 rfl (lv_room (Nat.le_of_ble_eq_true rfl)) dX5_fits_122 ⟨Nat.zero_le _, Nat.zero_le _⟩) (fun r28 er28 => ?_)
      rcases er28 with ⟨rfl, hr28⟩ | ⟨rfl, hr28⟩
      · skip
        refine lv_if_eq (tgt := 148) hx hb dX5_fits_125 (by decide) (fun h29 => absurd h29 (by decide)) (fun _ => ?_)
        refine lv_iload_n hx hb dX5_fits_128 rfl (lv_at hl 1 rfl) ?_
        refine vp_callSi (W.runS (As := [.int (nI 3)]) (rest := []) ⟨hx, hb, hml, hown, hts⟩ (ctX5_names l (nI 3)) (va_cwS 1 hts (wA_wsS wm_ml_X5_88 wm_st_X5_names wm_in_X5 wm_cd_X5_names) rfl rfl rfl (by decide +kernel) ⟨Nat.le_of_ble_eq_true rfl, Nat.le_of_ble_eq_true rfl⟩) ⟨fun a U g mk q => q, fun U hU hW => ⟨rfl, trivial⟩⟩ rfl rfl hl.1 rfl (lv_room (Nat.le_of_ble_eq_true rfl)) dX5_fits_129 ⟨Nat.zero_le _, Nat.zero_le _⟩) (fun r30 er30 => ?_)
        have er30 := er30.trans (show pm_nms (nI 3) = 1 by decide +kernel)
        subst er30
        refine lv_iconst (v := 1) hx hb dX5_fits_132 (by decide) ?_
        refine lv_icmp_eq (tgt := 144) hx hb dX5_fits_133 (by decide) (fun _ => ?_) (fun h31 => absurd (by decide) h31)
        refine lv_iconst (v := 1) hx hb dX5_fits_144 (by decide) ?_
        refine lv_goto (tgt := 149) hx hb dX5_fits_145 (by decide) ?_
        exact W.zret (v := 1) hx hb hr (rfl) (fun t9 ht9 hW9 => ⟨1, rfl, Or.inl ⟨rfl, (pq_alw_n (κ := 3) (by omega)).mpr ⟨pq_f3.mpr hr28, Or.inl rfl, Or.inl rfl⟩⟩, ht9⟩) (fun q hq => by cases hq) dX5_fits_149
      · skip
        refine lv_if_eq (tgt := 148) hx hb dX5_fits_125 (by decide) (fun _ => ?_) (fun h32 => absurd (by decide) h32)
        refine lv_iconst (v := 0) hx hb dX5_fits_148 (by decide) ?_
        exact W.zret (v := 0) hx hb hr (rfl) (fun t9 ht9 hW9 => ⟨0, rfl, Or.inr ⟨rfl, fun z => hr28 (pq_f3.mp ((pq_alw_n (κ := 3) (by omega)).mp z).1)⟩, ht9⟩) (fun q hq => by cases hq) dX5_fits_149
    · skip
      refine lv_if_eq (tgt := 11) hx hb dX5_fits_6 (by decide) (fun _ => ?_) (fun h33 => absurd (by decide) h33)
      refine lv_iload_n hx hb dX5_fits_11 rfl (lv_at hl 1 rfl) ?_
      refine lv_if_ne (tgt := 29) hx hb dX5_fits_12 (by decide) (fun _ => ?_) (fun h34 => absurd h34 (by decide))
      refine lv_iload_n hx hb dX5_fits_29 rfl (lv_at hl 1 rfl) ?_
      refine lv_iconst (v := 1) hx hb dX5_fits_30 (by decide) ?_
      refine lv_icmp_ne (tgt := 49) hx hb dX5_fits_31 (by decide) (fun _ => ?_) (fun h35 => absurd h35 (by decide))
      refine lv_iload_n hx hb dX5_fits_49 rfl (lv_at hl 1 rfl) ?_
      refine lv_bipush (v := nI 9) hx hb dX5_fits_50 (by decide) ?_
      refine lv_icmp_ne (tgt := 86) hx hb dX5_fits_52 (by decide) (fun _ => ?_) (fun h36 => absurd h36 (by decide))
      refine lv_iload_n hx hb dX5_fits_86 rfl (lv_at hl 1 rfl) ?_
      refine lv_bipush (v := nI 17) hx hb dX5_fits_87 (by decide) ?_
      refine lv_icmp_lt (tgt := 120) hx hb dX5_fits_89 (by decide) (fun _ => ?_) (fun h37 => absurd (by decide) h37)
      refine lv_aload_n hx hb dX5_fits_120 rfl (lv_at hl 0 rfl) ?_
      refine lv_iload_n hx hb dX5_fits_121 rfl (lv_at hl 2 rfl) ?_
      refine vp_callSi (W.runV (C := RX5) (b := ad 0) (As := [.int a0]) (rest := []) ⟨hx, hb, hml, hown, hts⟩ (ctX5_isNumber l dC dI cI ad aK aA aB aC aM aS aF aN th ck fo n mm lv hn fk hk hk2 a0) (cwV 1 hts (wA_wsV wm_ml_X5_85 wm_im_X5_isNumber wm_se_X5_isNumber wm_in_X5 wm_cd_X5_isNumber) rfl rfl rfl (by decide +kernel) ⟨Nat.le_of_ble_eq_true rfl, Nat.le_of_ble_eq_true rfl⟩) ⟨fun a U g mk q => by obtain ⟨q0, qP, qK⟩ := q; exact ⟨q0, qP, va_K.moved (u := U) (U := U.calling g mk a) (Vm.Alike.refl U.vm) qK⟩, va_recv (q := (RX5, TX5, 14)) (q0 := 0) hK hP rfl rfl, fun U hU hW => ⟨rfl, by rw [hU]; exact hP, va_K.moved hW.alike hK⟩⟩ rfl rfl hl.1 rfl (lv_room (Nat.le_of_ble_eq_true rfl)) dX5_fits_122 ⟨Nat.zero_le _, Nat.zero_le _⟩) (fun r38 er38 => ?_)
      rcases er38 with ⟨rfl, hr38⟩ | ⟨rfl, hr38⟩
      · skip
        refine lv_if_eq (tgt := 148) hx hb dX5_fits_125 (by decide) (fun h39 => absurd h39 (by decide)) (fun _ => ?_)
        refine lv_iload_n hx hb dX5_fits_128 rfl (lv_at hl 1 rfl) ?_
        refine vp_callSi (W.runS (As := [.int (nI 4)]) (rest := []) ⟨hx, hb, hml, hown, hts⟩ (ctX5_names l (nI 4)) (va_cwS 1 hts (wA_wsS wm_ml_X5_88 wm_st_X5_names wm_in_X5 wm_cd_X5_names) rfl rfl rfl (by decide +kernel) ⟨Nat.le_of_ble_eq_true rfl, Nat.le_of_ble_eq_true rfl⟩) ⟨fun a U g mk q => q, fun U hU hW => ⟨rfl, trivial⟩⟩ rfl rfl hl.1 rfl (lv_room (Nat.le_of_ble_eq_true rfl)) dX5_fits_129 ⟨Nat.zero_le _, Nat.zero_le _⟩) (fun r40 er40 => ?_)
        have er40 := er40.trans (show pm_nms (nI 4) = 2 by decide +kernel)
        subst er40
        refine lv_iconst (v := 1) hx hb dX5_fits_132 (by decide) ?_
        refine lv_icmp_eq (tgt := 144) hx hb dX5_fits_133 (by decide) (fun h41 => absurd h41 (by decide)) (fun _ => ?_)
        refine lv_aload_n hx hb dX5_fits_136 rfl (lv_at hl 0 rfl) ?_
        refine lv_iload_n hx hb dX5_fits_137 rfl (lv_at hl 3 rfl) ?_
        refine vp_callSi (W.runV (C := RX5) (b := ad 0) (As := [.int b0]) (rest := []) ⟨hx, hb, hml, hown, hts⟩ (ctX5_isNumber l dC dI cI ad aK aA aB aC aM aS aF aN th ck fo n mm lv hn fk hk hk2 b0) (cwV 1 hts (wA_wsV wm_ml_X5_85 wm_im_X5_isNumber wm_se_X5_isNumber wm_in_X5 wm_cd_X5_isNumber) rfl rfl rfl (by decide +kernel) ⟨Nat.le_of_ble_eq_true rfl, Nat.le_of_ble_eq_true rfl⟩) ⟨fun a U g mk q => by obtain ⟨q0, qP, qK⟩ := q; exact ⟨q0, qP, va_K.moved (u := U) (U := U.calling g mk a) (Vm.Alike.refl U.vm) qK⟩, va_recv (q := (RX5, TX5, 14)) (q0 := 0) hK hP rfl rfl, fun U hU hW => ⟨rfl, by rw [hU]; exact hP, va_K.moved hW.alike hK⟩⟩ rfl rfl hl.1 rfl (lv_room (Nat.le_of_ble_eq_true rfl)) dX5_fits_138 ⟨Nat.zero_le _, Nat.zero_le _⟩) (fun r42 er42 => ?_)
        rcases er42 with ⟨rfl, hr42⟩ | ⟨rfl, hr42⟩
        · skip
          refine lv_if_eq (tgt := 148) hx hb dX5_fits_141 (by decide) (fun h43 => absurd h43 (by decide)) (fun _ => ?_)
          refine lv_iconst (v := 1) hx hb dX5_fits_144 (by decide) ?_
          refine lv_goto (tgt := 149) hx hb dX5_fits_145 (by decide) ?_
          exact W.zret (v := 1) hx hb hr (rfl) (fun t9 ht9 hW9 => ⟨1, rfl, Or.inl ⟨rfl, (pq_alw_n (κ := 4) (by omega)).mpr ⟨pq_f3.mpr hr38, pq_f3.mpr hr42, Or.inl rfl⟩⟩, ht9⟩) (fun q hq => by cases hq) dX5_fits_149
        · skip
          refine lv_if_eq (tgt := 148) hx hb dX5_fits_141 (by decide) (fun _ => ?_) (fun h44 => absurd (by decide) h44)
          refine lv_iconst (v := 0) hx hb dX5_fits_148 (by decide) ?_
          exact W.zret (v := 0) hx hb hr (rfl) (fun t9 ht9 hW9 => ⟨0, rfl, Or.inr ⟨rfl, fun z => hr42 (pq_f3.mp ((pq_alw_n (κ := 4) (by omega)).mp z).2.1)⟩, ht9⟩) (fun q hq => by cases hq) dX5_fits_149
      · skip
        refine lv_if_eq (tgt := 148) hx hb dX5_fits_125 (by decide) (fun _ => ?_) (fun h45 => absurd (by decide) h45)
        refine lv_iconst (v := 0) hx hb dX5_fits_148 (by decide) ?_
        exact W.zret (v := 0) hx hb hr (rfl) (fun t9 ht9 hW9 => ⟨0, rfl, Or.inr ⟨rfl, fun z => hr38 (pq_f3.mp ((pq_alw_n (κ := 4) (by omega)).mp z).1)⟩, ht9⟩) (fun q hq => by cases hq) dX5_fits_149
    · skip
      refine lv_if_eq (tgt := 11) hx hb dX5_fits_6 (by decide) (fun _ => ?_) (fun h46 => absurd (by decide) h46)
      refine lv_iload_n hx hb dX5_fits_11 rfl (lv_at hl 1 rfl) ?_
      refine lv_if_ne (tgt := 29) hx hb dX5_fits_12 (by decide) (fun _ => ?_) (fun h47 => absurd h47 (by decide))
      refine lv_iload_n hx hb dX5_fits_29 rfl (lv_at hl 1 rfl) ?_
      refine lv_iconst (v := 1) hx hb dX5_fits_30 (by decide) ?_
      refine lv_icmp_ne (tgt := 49) hx hb dX5_fits_31 (by decide) (fun _ => ?_) (fun h48 => absurd h48 (by decide))
      refine lv_iload_n hx hb dX5_fits_49 rfl (lv_at hl 1 rfl) ?_
      refine lv_bipush (v := nI 9) hx hb dX5_fits_50 (by decide) ?_
      refine lv_icmp_ne (tgt := 86) hx hb dX5_fits_52 (by decide) (fun _ => ?_) (fun h49 => absurd h49 (by decide))
      refine lv_iload_n hx hb dX5_fits_86 rfl (lv_at hl 1 rfl) ?_
      refine lv_bipush (v := nI 17) hx hb dX5_fits_87 (by decide) ?_
      refine lv_icmp_lt (tgt := 120) hx hb dX5_fits_89 (by decide) (fun _ => ?_) (fun h50 => absurd (by decide) h50)
      refine lv_aload_n hx hb dX5_fits_120 rfl (lv_at hl 0 rfl) ?_
      refine lv_iload_n hx hb dX5_fits_121 rfl (lv_at hl 2 rfl) ?_
      refine vp_callSi (W.runV (C := RX5) (b := ad 0) (As := [.int a0]) (rest := []) ⟨hx, hb, hml, hown, hts⟩ (ctX5_isNumber l dC dI cI ad aK aA aB aC aM aS aF aN th ck fo n mm lv hn fk hk hk2 a0) (cwV 1 hts (wA_wsV wm_ml_X5_85 wm_im_X5_isNumber wm_se_X5_isNumber wm_in_X5 wm_cd_X5_isNumber) rfl rfl rfl (by decide +kernel) ⟨Nat.le_of_ble_eq_true rfl, Nat.le_of_ble_eq_true rfl⟩) ⟨fun a U g mk q => by obtain ⟨q0, qP, qK⟩ := q; exact ⟨q0, qP, va_K.moved (u := U) (U := U.calling g mk a) (Vm.Alike.refl U.vm) qK⟩, va_recv (q := (RX5, TX5, 14)) (q0 := 0) hK hP rfl rfl, fun U hU hW => ⟨rfl, by rw [hU]; exact hP, va_K.moved hW.alike hK⟩⟩ rfl rfl hl.1 rfl (lv_room (Nat.le_of_ble_eq_true rfl)) dX5_fits_122 ⟨Nat.zero_le _, Nat.zero_le _⟩) (fun r51 er51 => ?_)
      rcases er51 with ⟨rfl, hr51⟩ | ⟨rfl, hr51⟩
      · skip
        refine lv_if_eq (tgt := 148) hx hb dX5_fits_125 (by decide) (fun h52 => absurd h52 (by decide)) (fun _ => ?_)
        refine lv_iload_n hx hb dX5_fits_128 rfl (lv_at hl 1 rfl) ?_
        refine vp_callSi (W.runS (As := [.int (nI 5)]) (rest := []) ⟨hx, hb, hml, hown, hts⟩ (ctX5_names l (nI 5)) (va_cwS 1 hts (wA_wsS wm_ml_X5_88 wm_st_X5_names wm_in_X5 wm_cd_X5_names) rfl rfl rfl (by decide +kernel) ⟨Nat.le_of_ble_eq_true rfl, Nat.le_of_ble_eq_true rfl⟩) ⟨fun a U g mk q => q, fun U hU hW => ⟨rfl, trivial⟩⟩ rfl rfl hl.1 rfl (lv_room (Nat.le_of_ble_eq_true rfl)) dX5_fits_129 ⟨Nat.zero_le _, Nat.zero_le _⟩) (fun r53 er53 => ?_)
        have er53 := er53.trans (show pm_nms (nI 5) = 2 by decide +kernel)
        subst er53
        refine lv_iconst (v := 1) hx hb dX5_fits_132 (by decide) ?_
        refine lv_icmp_eq (tgt := 144) hx hb dX5_fits_133 (by decide) (fun h54 => absurd h54 (by decide)) (fun _ => ?_)
        refine lv_aload_n hx hb dX5_fits_136 rfl (lv_at hl 0 rfl) ?_
        refine lv_iload_n hx hb dX5_fits_137 rfl (lv_at hl 3 rfl) ?_
        refine vp_callSi (W.runV (C := RX5) (b := ad 0) (As := [.int b0]) (rest := []) ⟨hx, hb, hml, hown, hts⟩ (ctX5_isNumber l dC dI cI ad aK aA aB aC aM aS aF aN th ck fo n mm lv hn fk hk hk2 b0) (cwV 1 hts (wA_wsV wm_ml_X5_85 wm_im_X5_isNumber wm_se_X5_isNumber wm_in_X5 wm_cd_X5_isNumber) rfl rfl rfl (by decide +kernel) ⟨Nat.le_of_ble_eq_true rfl, Nat.le_of_ble_eq_true rfl⟩) ⟨fun a U g mk q => by obtain ⟨q0, qP, qK⟩ := q; exact ⟨q0, qP, va_K.moved (u := U) (U := U.calling g mk a) (Vm.Alike.refl U.vm) qK⟩, va_recv (q := (RX5, TX5, 14)) (q0 := 0) hK hP rfl rfl, fun U hU hW => ⟨rfl, by rw [hU]; exact hP, va_K.moved hW.alike hK⟩⟩ rfl rfl hl.1 rfl (lv_room (Nat.le_of_ble_eq_true rfl)) dX5_fits_138 ⟨Nat.zero_le _, Nat.zero_le _⟩) (fun r55 er55 => ?_)
        rcases er55 with ⟨rfl, hr55⟩ | ⟨rfl, hr55⟩
        · skip
          refine lv_if_eq (tgt := 148) hx hb dX5_fits_141 (by decide) (fun h56 => absurd h56 (by decide)) (fun _ => ?_)
          refine lv_iconst (v := 1) hx hb dX5_fits_144 (by decide) ?_
          refine lv_goto (tgt := 149) hx hb dX5_fits_145 (by decide) ?_
          exact W.zret (v := 1) hx hb hr (rfl) (fun t9 ht9 hW9 => ⟨1, rfl, Or.inl ⟨rfl, (pq_alw_n (κ := 5) (by omega)).mpr ⟨pq_f3.mpr hr51, pq_f3.mpr hr55, Or.inl rfl⟩⟩, ht9⟩) (fun q hq => by cases hq) dX5_fits_149
        · skip
          refine lv_if_eq (tgt := 148) hx hb dX5_fits_141 (by decide) (fun _ => ?_) (fun h57 => absurd (by decide) h57)
          refine lv_iconst (v := 0) hx hb dX5_fits_148 (by decide) ?_
          exact W.zret (v := 0) hx hb hr (rfl) (fun t9 ht9 hW9 => ⟨0, rfl, Or.inr ⟨rfl, fun z => hr55 (pq_f3.mp ((pq_alw_n (κ := 5) (by omega)).mp z).2.1)⟩, ht9⟩) (fun q hq => by cases hq) dX5_fits_149
      · skip
        refine lv_if_eq (tgt := 148) hx hb dX5_fits_125 (by decide) (fun _ => ?_) (fun h58 => absurd (by decide) h58)
        refine lv_iconst (v := 0) hx hb dX5_fits_148 (by decide) ?_
        exact W.zret (v := 0) hx hb hr (rfl) (fun t9 ht9 hW9 => ⟨0, rfl, Or.inr ⟨rfl, fun z => hr51 (pq_f3.mp ((pq_alw_n (κ := 5) (by omega)).mp z).1)⟩, ht9⟩) (fun q hq => by cases hq) dX5_fits_149
    · skip
      refine lv_if_eq (tgt := 11) hx hb dX5_fits_6 (by decide) (fun _ => ?_) (fun h59 => absurd (by decide) h59)
      refine lv_iload_n hx hb dX5_fits_11 rfl (lv_at hl 1 rfl) ?_
      refine lv_if_ne (tgt := 29) hx hb dX5_fits_12 (by decide) (fun _ => ?_) (fun h60 => absurd h60 (by decide))
      refine lv_iload_n hx hb dX5_fits_29 rfl (lv_at hl 1 rfl) ?_
      refine lv_iconst (v := 1) hx hb dX5_fits_30 (by decide) ?_
      refine lv_icmp_ne (tgt := 49) hx hb dX5_fits_31 (by decide) (fun _ => ?_) (fun h61 => absurd h61 (by decide))
      refine lv_iload_n hx hb dX5_fits_49 rfl (lv_at hl 1 rfl) ?_
      refine lv_bipush (v := nI 9) hx hb dX5_fits_50 (by decide) ?_
      refine lv_icmp_ne (tgt := 86) hx hb dX5_fits_52 (by decide) (fun _ => ?_) (fun h62 => absurd h62 (by decide))
      refine lv_iload_n hx hb dX5_fits_86 rfl (lv_at hl 1 rfl) ?_
      refine lv_bipush (v := nI 17) hx hb dX5_fits_87 (by decide) ?_
      refine lv_icmp_lt (tgt := 120) hx hb dX5_fits_89 (by decide) (fun _ => ?_) (fun h63 => absurd (by decide) h63)
      refine lv_aload_n hx hb dX5_fits_120 rfl (lv_at hl 0 rfl) ?_
      refine lv_iload_n hx hb dX5_fits_121 rfl (lv_at hl 2 rfl) ?_
      refine vp_callSi (W.runV (C := RX5) (b := ad 0) (As := [.int a0]) (rest := []) ⟨hx, hb, hml, hown, hts⟩ (ctX5_isNumber l dC dI cI ad aK aA aB aC aM aS aF aN th ck fo n mm lv hn fk hk hk2 a0) (cwV 1 hts (wA_wsV wm_ml_X5_85 wm_im_X5_isNumber wm_se_X5_isNumber wm_in_X5 wm_cd_X5_isNumber) rfl rfl rfl (by decide +kernel) ⟨Nat.le_of_ble_eq_true rfl, Nat.le_of_ble_eq_true rfl⟩) ⟨fun a U g mk q => by obtain ⟨q0, qP, qK⟩ := q; exact ⟨q0, qP, va_K.moved (u := U) (U := U.calling g mk a) (Vm.Alike.refl U.vm) qK⟩, va_recv (q := (RX5, TX5, 14)) (q0 := 0) hK hP rfl rfl, fun U hU hW => ⟨rfl, by rw [hU]; exact hP, va_K.moved hW.alike hK⟩⟩ rfl rfl hl.1 rfl (lv_room (Nat.le_of_ble_eq_true rfl)) dX5_fits_122 ⟨Nat.zero_le _, Nat.zero_le _⟩) (fun r64 er64 => ?_)
      rcases er64 with ⟨rfl, hr64⟩ | ⟨rfl, hr64⟩
      · skip
        refine lv_if_eq (tgt := 148) hx hb dX5_fits_125 (by decide) (fun h65 => absurd h65 (by decide)) (fun _ => ?_)
        refine lv_iload_n hx hb dX5_fits_128 rfl (lv_at hl 1 rfl) ?_
        refine vp_callSi (W.runS (As := [.int (nI 6)]) (rest := []) ⟨hx, hb, hml, hown, hts⟩ (ctX5_names l (nI 6)) (va_cwS 1 hts (wA_wsS wm_ml_X5_88 wm_st_X5_names wm_in_X5 wm_cd_X5_names) rfl rfl rfl (by decide +kernel) ⟨Nat.le_of_ble_eq_true rfl, Nat.le_of_ble_eq_true rfl⟩) ⟨fun a U g mk q => q, fun U hU hW => ⟨rfl, trivial⟩⟩ rfl rfl hl.1 rfl (lv_room (Nat.le_of_ble_eq_true rfl)) dX5_fits_129 ⟨Nat.zero_le _, Nat.zero_le _⟩) (fun r66 er66 => ?_)
        have er66 := er66.trans (show pm_nms (nI 6) = 2 by decide +kernel)
        subst er66
        refine lv_iconst (v := 1) hx hb dX5_fits_132 (by decide) ?_
        refine lv_icmp_eq (tgt := 144) hx hb dX5_fits_133 (by decide) (fun h67 => absurd h67 (by decide)) (fun _ => ?_)
        refine lv_aload_n hx hb dX5_fits_136 rfl (lv_at hl 0 rfl) ?_
        refine lv_iload_n hx hb dX5_fits_137 rfl (lv_at hl 3 rfl) ?_
        refine vp_callSi (W.runV (C := RX5) (b := ad 0) (As := [.int b0]) (rest := []) ⟨hx, hb, hml, hown, hts⟩ (ctX5_isNumber l dC dI cI ad aK aA aB aC aM aS aF aN th ck fo n mm lv hn fk hk hk2 b0) (cwV 1 hts (wA_wsV wm_ml_X5_85 wm_im_X5_isNumber wm_se_X5_isNumber wm_in_X5 wm_cd_X5_isNumber) rfl rfl rfl (by decide +kernel) ⟨Nat.le_of_ble_eq_true rfl, Nat.le_of_ble_eq_true rfl⟩) ⟨fun a U g mk q => by obtain ⟨q0, qP, qK⟩ := q; exact ⟨q0, qP, va_K.moved (u := U) (U := U.calling g mk a) (Vm.Alike.refl U.vm) qK⟩, va_recv (q := (RX5, TX5, 14)) (q0 := 0) hK hP rfl rfl, fun U hU hW => ⟨rfl, by rw [hU]; exact hP, va_K.moved hW.alike hK⟩⟩ rfl rfl hl.1 rfl (lv_room (Nat.le_of_ble_eq_true rfl)) dX5_fits_138 ⟨Nat.zero_le _, Nat.zero_le _⟩) (fun r68 er68 => ?_)
        rcases er68 with ⟨rfl, hr68⟩ | ⟨rfl, hr68⟩
        · skip
          refine lv_if_eq (tgt := 148) hx hb dX5_fits_141 (by decide) (fun h69 => absurd h69 (by decide)) (fun _ => ?_)
          refine lv_iconst (v := 1) hx hb dX5_fits_144 (by decide) ?_
          refine lv_goto (tgt := 149) hx hb dX5_fits_145 (by decide) ?_
          exact W.zret (v := 1) hx hb hr (rfl) (fun t9 ht9 hW9 => ⟨1, rfl, Or.inl ⟨rfl, (pq_alw_n (κ := 6) (by omega)).mpr ⟨pq_f3.mpr hr64, pq_f3.mpr hr68, Or.inl rfl⟩⟩, ht9⟩) (fun q hq => by cases hq) dX5_fits_149
        · skip
          refine lv_if_eq (tgt := 148) hx hb dX5_fits_141 (by decide) (fun _ => ?_) (fun h70 => absurd (by decide) h70)
          refine lv_iconst (v := 0) hx hb dX5_fits_148 (by decide) ?_
          exact W.zret (v := 0) hx hb hr (rfl) (fun t9 ht9 hW9 => ⟨0, rfl, Or.inr ⟨rfl, fun z => hr68 (pq_f3.mp ((pq_alw_n (κ := 6) (by omega)).mp z).2.1)⟩, ht9⟩) (fun q hq => by cases hq) dX5_fits_149
      · skip
        refine lv_if_eq (tgt := 148) hx hb dX5_fits_125 (by decide) (fun _ => ?_) (fun h71 => absurd (by decide) h71)
        refine lv_iconst (v := 0) hx hb dX5_fits_148 (by decide) ?_
        exact W.zret (v := 0) hx hb hr (rfl) (fun t9 ht9 hW9 => ⟨0, rfl, Or.inr ⟨rfl, fun z => hr64 (pq_f3.mp ((pq_alw_n (κ := 6) (by omega)).mp z).1)⟩, ht9⟩) (fun q hq => by cases hq) dX5_fits_149
    · skip
      refine lv_if_eq (tgt := 11) hx hb dX5_fits_6 (by decide) (fun _ => ?_) (fun h72 => absurd (by decide) h72)
      refine lv_iload_n hx hb dX5_fits_11 rfl (lv_at hl 1 rfl) ?_
      refine lv_if_ne (tgt := 29) hx hb dX5_fits_12 (by decide) (fun _ => ?_) (fun h73 => absurd h73 (by decide))
      refine lv_iload_n hx hb dX5_fits_29 rfl (lv_at hl 1 rfl) ?_
      refine lv_iconst (v := 1) hx hb dX5_fits_30 (by decide) ?_
      refine lv_icmp_ne (tgt := 49) hx hb dX5_fits_31 (by decide) (fun _ => ?_) (fun h74 => absurd h74 (by decide))
      refine lv_iload_n hx hb dX5_fits_49 rfl (lv_at hl 1 rfl) ?_
      refine lv_bipush (v := nI 9) hx hb dX5_fits_50 (by decide) ?_
      refine lv_icmp_ne (tgt := 86) hx hb dX5_fits_52 (by decide) (fun _ => ?_) (fun h75 => absurd h75 (by decide))
      refine lv_iload_n hx hb dX5_fits_86 rfl (lv_at hl 1 rfl) ?_
      refine lv_bipush (v := nI 17) hx hb dX5_fits_87 (by decide) ?_
      refine lv_icmp_lt (tgt := 120) hx hb dX5_fits_89 (by decide) (fun _ => ?_) (fun h76 => absurd (by decide) h76)
      refine lv_aload_n hx hb dX5_fits_120 rfl (lv_at hl 0 rfl) ?_
      refine lv_iload_n hx hb dX5_fits_121 rfl (lv_at hl 2 rfl) ?_
      refine vp_callSi (W.runV (C := RX5) (b := ad 0) (As := [.int a0]) (rest := []) ⟨hx, hb, hml, hown, hts⟩ (ctX5_isNumber l dC dI cI ad aK aA aB aC aM aS aF aN th ck fo n mm lv hn fk hk hk2 a0) (cwV 1 hts (wA_wsV wm_ml_X5_85 wm_im_X5_isNumber wm_se_X5_isNumber wm_in_X5 wm_cd_X5_isNumber) rfl rfl rfl (by decide +kernel) ⟨Nat.le_of_ble_eq_true rfl, Nat.le_of_ble_eq_true rfl⟩) ⟨fun a U g mk q => by obtain ⟨q0, qP, qK⟩ := q; exact ⟨q0, qP, va_K.moved (u := U) (U := U.calling g mk a) (Vm.Alike.refl U.vm) qK⟩, va_recv (q := (RX5, TX5, 14)) (q0 := 0) hK hP rfl rfl, fun U hU hW => ⟨rfl, by rw [hU]; exact hP, va_K.moved hW.alike hK⟩⟩ rfl rfl hl.1 rfl (lv_room (Nat.le_of_ble_eq_true rfl)) dX5_fits_122 ⟨Nat.zero_le _, Nat.zero_le _⟩) (fun r77 er77 => ?_)
      rcases er77 with ⟨rfl, hr77⟩ | ⟨rfl, hr77⟩
      · skip
        refine lv_if_eq (tgt := 148) hx hb dX5_fits_125 (by decide) (fun h78 => absurd h78 (by decide)) (fun _ => ?_)
        refine lv_iload_n hx hb dX5_fits_128 rfl (lv_at hl 1 rfl) ?_
        refine vp_callSi (W.runS (As := [.int (nI 7)]) (rest := []) ⟨hx, hb, hml, hown, hts⟩ (ctX5_names l (nI 7)) (va_cwS 1 hts (wA_wsS wm_ml_X5_88 wm_st_X5_names wm_in_X5 wm_cd_X5_names) rfl rfl rfl (by decide +kernel) ⟨Nat.le_of_ble_eq_true rfl, Nat.le_of_ble_eq_true rfl⟩) ⟨fun a U g mk q => q, fun U hU hW => ⟨rfl, trivial⟩⟩ rfl rfl hl.1 rfl (lv_room (Nat.le_of_ble_eq_true rfl)) dX5_fits_129 ⟨Nat.zero_le _, Nat.zero_le _⟩) (fun r79 er79 => ?_)
        have er79 := er79.trans (show pm_nms (nI 7) = 2 by decide +kernel)
        subst er79
        refine lv_iconst (v := 1) hx hb dX5_fits_132 (by decide) ?_
        refine lv_icmp_eq (tgt := 144) hx hb dX5_fits_133 (by decide) (fun h80 => absurd h80 (by decide)) (fun _ => ?_)
        refine lv_aload_n hx hb dX5_fits_136 rfl (lv_at hl 0 rfl) ?_
        refine lv_iload_n hx hb dX5_fits_137 rfl (lv_at hl 3 rfl) ?_
        refine vp_callSi (W.runV (C := RX5) (b := ad 0) (As := [.int b0]) (rest := []) ⟨hx, hb, hml, hown, hts⟩ (ctX5_isNumber l dC dI cI ad aK aA aB aC aM aS aF aN th ck fo n mm lv hn fk hk hk2 b0) (cwV 1 hts (wA_wsV wm_ml_X5_85 wm_im_X5_isNumber wm_se_X5_isNumber wm_in_X5 wm_cd_X5_isNumber) rfl rfl rfl (by decide +kernel) ⟨Nat.le_of_ble_eq_true rfl, Nat.le_of_ble_eq_true rfl⟩) ⟨fun a U g mk q => by obtain ⟨q0, qP, qK⟩ := q; exact ⟨q0, qP, va_K.moved (u := U) (U := U.calling g mk a) (Vm.Alike.refl U.vm) qK⟩, va_recv (q := (RX5, TX5, 14)) (q0 := 0) hK hP rfl rfl, fun U hU hW => ⟨rfl, by rw [hU]; exact hP, va_K.moved hW.alike hK⟩⟩ rfl rfl hl.1 rfl (lv_room (Nat.le_of_ble_eq_true rfl)) dX5_fits_138 ⟨Nat.zero_le _, Nat.zero_le _⟩) (fun r81 er81 => ?_)
        rcases er81 with ⟨rfl, hr81⟩ | ⟨rfl, hr81⟩
        · skip
          refine lv_if_eq (tgt := 148) hx hb dX5_fits_141 (by decide) (fun h82 => absurd h82 (by decide)) (fun _ => ?_)
          refine lv_iconst (v := 1) hx hb dX5_fits_144 (by decide) ?_
          refine lv_goto (tgt := 149) hx hb dX5_fits_145 (by decide) ?_
          exact W.zret (v := 1) hx hb hr (rfl) (fun t9 ht9 hW9 => ⟨1, rfl, Or.inl ⟨rfl, (pq_alw_n (κ := 7) (by omega)).mpr ⟨pq_f3.mpr hr77, pq_f3.mpr hr81, Or.inl rfl⟩⟩, ht9⟩) (fun q hq => by cases hq) dX5_fits_149
        · skip
          refine lv_if_eq (tgt := 148) hx hb dX5_fits_141 (by decide) (fun _ => ?_) (fun h83 => absurd (by decide) h83)
          refine lv_iconst (v := 0) hx hb dX5_fits_148 (by decide) ?_
          exact W.zret (v := 0) hx hb hr (rfl) (fun t9 ht9 hW9 => ⟨0, rfl, Or.inr ⟨rfl, fun z => hr81 (pq_f3.mp ((pq_alw_n (κ := 7) (by omega)).mp z).2.1)⟩, ht9⟩) (fun q hq => by cases hq) dX5_fits_149
      · skip
        refine lv_if_eq (tgt := 148) hx hb dX5_fits_125 (by decide) (fun _ => ?_) (fun h84 => absurd (by decide) h84)
        refine lv_iconst (v := 0) hx hb dX5_fits_148 (by decide) ?_
        exact W.zret (v := 0) hx hb hr (rfl) (fun t9 ht9 hW9 => ⟨0, rfl, Or.inr ⟨rfl, fun z => hr77 (pq_f3.mp ((pq_alw_n (κ := 7) (by omega)).mp z).1)⟩, ht9⟩) (fun q hq => by cases hq) dX5_fits_149
    · skip
      refine lv_if_eq (tgt := 11) hx hb dX5_fits_6 (by decide) (fun _ => ?_) (fun h85 => absurd (by decide) h85)
      refine lv_iload_n hx hb dX5_fits_11 rfl (lv_at hl 1 rfl) ?_
      refine lv_if_ne (tgt := 29) hx hb dX5_fits_12 (by decide) (fun _ => ?_) (fun h86 => absurd h86 (by decide))
      refine lv_iload_n hx hb dX5_fits_29 rfl (lv_at hl 1 rfl) ?_
      refine lv_iconst (v := 1) hx hb dX5_fits_30 (by decide) ?_
      refine lv_icmp_ne (tgt := 49) hx hb dX5_fits_31 (by decide) (fun _ => ?_) (fun h87 => absurd h87 (by decide))
      refine lv_iload_n hx hb dX5_fits_49 rfl (lv_at hl 1 rfl) ?_
      refine lv_bipush (v := nI 9) hx hb dX5_fits_50 (by decide) ?_
      refine lv_icmp_ne (tgt := 86) hx hb dX5_fits_52 (by decide) (fun _ => ?_) (fun h88 => absurd h88 (by decide))
      refine lv_iload_n hx hb dX5_fits_86 rfl (lv_at hl 1 rfl) ?_
      refine lv_bipush (v := nI 17) hx hb dX5_fits_87 (by decide) ?_
      refine lv_icmp_lt (tgt := 120) hx hb dX5_fits_89 (by decide) (fun _ => ?_) (fun h89 => absurd (by decide) h89)
      refine lv_aload_n hx hb dX5_fits_120 rfl (lv_at hl 0 rfl) ?_
      refine lv_iload_n hx hb dX5_fits_121 rfl (lv_at hl 2 rfl) ?_
      refine vp_callSi (W.runV (C := RX5) (b := ad 0) (As := [.int a0]) (rest := []) ⟨hx, hb, hml, hown, hts⟩ (ctX5_isNumber l dC dI cI ad aK aA aB aC aM aS aF aN th ck fo n mm lv hn fk hk hk2 a0) (cwV 1 hts (wA_wsV wm_ml_X5_85 wm_im_X5_isNumber wm_se_X5_isNumber wm_in_X5 wm_cd_X5_isNumber) rfl rfl rfl (by decide +kernel) ⟨Nat.le_of_ble_eq_true rfl, Nat.le_of_ble_eq_true rfl⟩) ⟨fun a U g mk q => by obtain ⟨q0, qP, qK⟩ := q; exact ⟨q0, qP, va_K.moved (u := U) (U := U.calling g mk a) (Vm.Alike.refl U.vm) qK⟩, va_recv (q := (RX5, TX5, 14)) (q0 := 0) hK hP rfl rfl, fun U hU hW => ⟨rfl, by rw [hU]; exact hP, va_K.moved hW.alike hK⟩⟩ rfl rfl hl.1 rfl (lv_room (Nat.le_of_ble_eq_true rfl)) dX5_fits_122 ⟨Nat.zero_le _, Nat.zero_le _⟩) (fun r90 er90 => ?_)
      rcases er90 with ⟨rfl, hr90⟩ | ⟨rfl, hr90⟩
      · skip
        refine lv_if_eq (tgt := 148) hx hb dX5_fits_125 (by decide) (fun h91 => absurd h91 (by decide)) (fun _ => ?_)
        refine lv_iload_n hx hb dX5_fits_128 rfl (lv_at hl 1 rfl) ?_
        refine vp_callSi (W.runS (As := [.int (nI 8)]) (rest := []) ⟨hx, hb, hml, hown, hts⟩ (ctX5_names l (nI 8)) (va_cwS 1 hts (wA_wsS wm_ml_X5_88 wm_st_X5_names wm_in_X5 wm_cd_X5_names) rfl rfl rfl (by decide +kernel) ⟨Nat.le_of_ble_eq_true rfl, Nat.le_of_ble_eq_true rfl⟩) ⟨fun a U g mk q => q, fun U hU hW => ⟨rfl, trivial⟩⟩ rfl rfl hl.1 rfl (lv_room (Nat.le_of_ble_eq_true rfl)) dX5_fits_129 ⟨Nat.zero_le _, Nat.zero_le _⟩) (fun r92 er92 => ?_)
        have er92 := er92.trans (show pm_nms (nI 8) = 2 by decide +kernel)
        subst er92
        refine lv_iconst (v := 1) hx hb dX5_fits_132 (by decide) ?_
        refine lv_icmp_eq (tgt := 144) hx hb dX5_fits_133 (by decide) (fun h93 => absurd h93 (by decide)) (fun _ => ?_)
        refine lv_aload_n hx hb dX5_fits_136 rfl (lv_at hl 0 rfl) ?_
        refine lv_iload_n hx hb dX5_fits_137 rfl (lv_at hl 3 rfl) ?_
        refine vp_callSi (W.runV (C := RX5) (b := ad 0) (As := [.int b0]) (rest := []) ⟨hx, hb, hml, hown, hts⟩ (ctX5_isNumber l dC dI cI ad aK aA aB aC aM aS aF aN th ck fo n mm lv hn fk hk hk2 b0) (cwV 1 hts (wA_wsV wm_ml_X5_85 wm_im_X5_isNumber wm_se_X5_isNumber wm_in_X5 wm_cd_X5_isNumber) rfl rfl rfl (by decide +kernel) ⟨Nat.le_of_ble_eq_true rfl, Nat.le_of_ble_eq_true rfl⟩) ⟨fun a U g mk q => by obtain ⟨q0, qP, qK⟩ := q; exact ⟨q0, qP, va_K.moved (u := U) (U := U.calling g mk a) (Vm.Alike.refl U.vm) qK⟩, va_recv (q := (RX5, TX5, 14)) (q0 := 0) hK hP rfl rfl, fun U hU hW => ⟨rfl, by rw [hU]; exact hP, va_K.moved hW.alike hK⟩⟩ rfl rfl hl.1 rfl (lv_room (Nat.le_of_ble_eq_true rfl)) dX5_fits_138 ⟨Nat.zero_le _, Nat.zero_le _⟩) (fun r94 er94 => ?_)
        rcases er94 with ⟨rfl, hr94⟩ | ⟨rfl, hr94⟩
        · skip
          refine lv_if_eq (tgt := 148) hx hb dX5_fits_141 (by decide) (fun h95 => absurd h95 (by decide)) (fun _ => ?_)
          refine lv_iconst (v := 1) hx hb dX5_fits_144 (by decide) ?_
          refine lv_goto (tgt := 149) hx hb dX5_fits_145 (by decide) ?_
          exact W.zret (v := 1) hx hb hr (rfl) (fun t9 ht9 hW9 => ⟨1, rfl, Or.inl ⟨rfl, (pq_alw_n (κ := 8) (by omega)).mpr ⟨pq_f3.mpr hr90, pq_f3.mpr hr94, Or.inl rfl⟩⟩, ht9⟩) (fun q hq => by cases hq) dX5_fits_149
        · skip
          refine lv_if_eq (tgt := 148) hx hb dX5_fits_141 (by decide) (fun _ => ?_) (fun h96 => absurd (by decide) h96)
          refine lv_iconst (v := 0) hx hb dX5_fits_148 (by decide) ?_
          exact W.zret (v := 0) hx hb hr (rfl) (fun t9 ht9 hW9 => ⟨0, rfl, Or.inr ⟨rfl, fun z => hr94 (pq_f3.mp ((pq_alw_n (κ := 8) (by omega)).mp z).2.1)⟩, ht9⟩) (fun q hq => by cases hq) dX5_fits_149
      · skip
        refine lv_if_eq (tgt := 148) hx hb dX5_fits_125 (by decide) (fun _ => ?_) (fun h97 => absurd (by decide) h97)
        refine lv_iconst (v := 0) hx hb dX5_fits_148 (by decide) ?_
        exact W.zret (v := 0) hx hb hr (rfl) (fun t9 ht9 hW9 => ⟨0, rfl, Or.inr ⟨rfl, fun z => hr90 (pq_f3.mp ((pq_alw_n (κ := 8) (by omega)).mp z).1)⟩, ht9⟩) (fun q hq => by cases hq) dX5_fits_149
    · skip
      refine lv_if_eq (tgt := 11) hx hb dX5_fits_6 (by decide) (fun _ => ?_) (fun h98 => absurd (by decide) h98)
      refine lv_iload_n hx hb dX5_fits_11 rfl (lv_at hl 1 rfl) ?_
      refine lv_if_ne (tgt := 29) hx hb dX5_fits_12 (by decide) (fun _ => ?_) (fun h99 => absurd h99 (by decide))
      refine lv_iload_n hx hb dX5_fits_29 rfl (lv_at hl 1 rfl) ?_
      refine lv_iconst (v := 1) hx hb dX5_fits_30 (by decide) ?_
      refine lv_icmp_ne (tgt := 49) hx hb dX5_fits_31 (by decide) (fun _ => ?_) (fun h100 => absurd h100 (by decide))
      refine lv_iload_n hx hb dX5_fits_49 rfl (lv_at hl 1 rfl) ?_
      refine lv_bipush (v := nI 9) hx hb dX5_fits_50 (by decide) ?_
      refine lv_icmp_ne (tgt := 86) hx hb dX5_fits_52 (by decide) (fun h101 => absurd (by decide) h101) (fun _ => ?_)
      refine lv_aload_n hx hb dX5_fits_55 rfl (lv_at hl 0 rfl) ?_
      refine lv_iload_n hx hb dX5_fits_56 rfl (lv_at hl 2 rfl) ?_
      refine vp_callSi (W.runV (C := RX5) (b := ad 0) (As := [.int a0]) (rest := []) ⟨hx, hb, hml, hown, hts⟩ (ctX5_isTruth l dC dI cI ad aK aA aB aC aM aS aF aN th ck fo n mm lv hn fk hk hk2 a0) (cwV 1 hts (wA_wsV wm_ml_X5_82 wm_im_X5_isTruth wm_se_X5_isTruth wm_in_X5 wm_cd_X5_isTruth) rfl rfl rfl (by decide +kernel) ⟨Nat.le_of_ble_eq_true rfl, Nat.le_of_ble_eq_true rfl⟩) ⟨fun a U g mk q => by obtain ⟨q0, qP, qK⟩ := q; exact ⟨q0, qP, va_K.moved (u := U) (U := U.calling g mk a) (Vm.Alike.refl U.vm) qK⟩, va_recv (q := (RX5, TX5, 14)) (q0 := 0) hK hP rfl rfl, fun U hU hW => ⟨rfl, by rw [hU]; exact hP, va_K.moved hW.alike hK⟩⟩ rfl rfl hl.1 rfl (lv_room (Nat.le_of_ble_eq_true rfl)) dX5_fits_57 ⟨Nat.zero_le _, Nat.zero_le _⟩) (fun r102 er102 => ?_)
      rcases er102 with ⟨rfl, hr102⟩ | ⟨rfl, hr102⟩
      · skip
        refine lv_if_eq (tgt := 84) hx hb dX5_fits_60 (by decide) (fun h103 => absurd h103 (by decide)) (fun _ => ?_)
        refine lv_aload_n hx hb dX5_fits_63 rfl (lv_at hl 0 rfl) ?_
        refine lv_iload_n hx hb dX5_fits_64 rfl (lv_at hl 3 rfl) ?_
        refine vp_callSi (W.runV (C := RX5) (b := ad 0) (As := [.int b0]) (rest := []) ⟨hx, hb, hml, hown, hts⟩ (ctX5_isNumber l dC dI cI ad aK aA aB aC aM aS aF aN th ck fo n mm lv hn fk hk hk2 b0) (cwV 1 hts (wA_wsV wm_ml_X5_85 wm_im_X5_isNumber wm_se_X5_isNumber wm_in_X5 wm_cd_X5_isNumber) rfl rfl rfl (by decide +kernel) ⟨Nat.le_of_ble_eq_true rfl, Nat.le_of_ble_eq_true rfl⟩) ⟨fun a U g mk q => by obtain ⟨q0, qP, qK⟩ := q; exact ⟨q0, qP, va_K.moved (u := U) (U := U.calling g mk a) (Vm.Alike.refl U.vm) qK⟩, va_recv (q := (RX5, TX5, 14)) (q0 := 0) hK hP rfl rfl, fun U hU hW => ⟨rfl, by rw [hU]; exact hP, va_K.moved hW.alike hK⟩⟩ rfl rfl hl.1 rfl (lv_room (Nat.le_of_ble_eq_true rfl)) dX5_fits_65 ⟨Nat.zero_le _, Nat.zero_le _⟩) (fun r104 er104 => ?_)
        rcases er104 with ⟨rfl, hr104⟩ | ⟨rfl, hr104⟩
        · skip
          refine lv_if_eq (tgt := 84) hx hb dX5_fits_68 (by decide) (fun h105 => absurd h105 (by decide)) (fun _ => ?_)
          refine lv_aload_n hx hb dX5_fits_71 rfl (lv_at hl 0 rfl) ?_
          refine lv_iload hx hb dX5_fits_72 (lv_at hl 4 rfl) ?_
          refine vp_callSi (W.runV (C := RX5) (b := ad 0) (As := [.int c0]) (rest := []) ⟨hx, hb, hml, hown, hts⟩ (ctX5_isNumber l dC dI cI ad aK aA aB aC aM aS aF aN th ck fo n mm lv hn fk hk hk2 c0) (cwV 1 hts (wA_wsV wm_ml_X5_85 wm_im_X5_isNumber wm_se_X5_isNumber wm_in_X5 wm_cd_X5_isNumber) rfl rfl rfl (by decide +kernel) ⟨Nat.le_of_ble_eq_true rfl, Nat.le_of_ble_eq_true rfl⟩) ⟨fun a U g mk q => by obtain ⟨q0, qP, qK⟩ := q; exact ⟨q0, qP, va_K.moved (u := U) (U := U.calling g mk a) (Vm.Alike.refl U.vm) qK⟩, va_recv (q := (RX5, TX5, 14)) (q0 := 0) hK hP rfl rfl, fun U hU hW => ⟨rfl, by rw [hU]; exact hP, va_K.moved hW.alike hK⟩⟩ rfl rfl hl.1 rfl (lv_room (Nat.le_of_ble_eq_true rfl)) dX5_fits_74 ⟨Nat.zero_le _, Nat.zero_le _⟩) (fun r106 er106 => ?_)
          rcases er106 with ⟨rfl, hr106⟩ | ⟨rfl, hr106⟩
          · skip
            refine lv_if_eq (tgt := 84) hx hb dX5_fits_77 (by decide) (fun h107 => absurd h107 (by decide)) (fun _ => ?_)
            refine lv_iconst (v := 1) hx hb dX5_fits_80 (by decide) ?_
            refine lv_goto (tgt := 85) hx hb dX5_fits_81 (by decide) ?_
            exact W.zret (v := 1) hx hb hr (rfl) (fun t9 ht9 hW9 => ⟨1, rfl, Or.inl ⟨rfl, (pq_alw_n (κ := 9) (by omega)).mpr ⟨pq_f4.mpr hr102, pq_f3.mpr hr104, pq_f3.mpr hr106⟩⟩, ht9⟩) (fun q hq => by cases hq) dX5_fits_85
          · skip
            refine lv_if_eq (tgt := 84) hx hb dX5_fits_77 (by decide) (fun _ => ?_) (fun h108 => absurd (by decide) h108)
            refine lv_iconst (v := 0) hx hb dX5_fits_84 (by decide) ?_
            exact W.zret (v := 0) hx hb hr (rfl) (fun t9 ht9 hW9 => ⟨0, rfl, Or.inr ⟨rfl, fun z => hr106 (pq_f3.mp ((pq_alw_n (κ := 9) (by omega)).mp z).2.2)⟩, ht9⟩) (fun q hq => by cases hq) dX5_fits_85
        · skip
          refine lv_if_eq (tgt := 84) hx hb dX5_fits_68 (by decide) (fun _ => ?_) (fun h109 => absurd (by decide) h109)
          refine lv_iconst (v := 0) hx hb dX5_fits_84 (by decide) ?_
          exact W.zret (v := 0) hx hb hr (rfl) (fun t9 ht9 hW9 => ⟨0, rfl, Or.inr ⟨rfl, fun z => hr104 (pq_f3.mp ((pq_alw_n (κ := 9) (by omega)).mp z).2.1)⟩, ht9⟩) (fun q hq => by cases hq) dX5_fits_85
      · skip
        refine lv_if_eq (tgt := 84) hx hb dX5_fits_60 (by decide) (fun _ => ?_) (fun h110 => absurd (by decide) h110)
        refine lv_iconst (v := 0) hx hb dX5_fits_84 (by decide) ?_
        exact W.zret (v := 0) hx hb hr (rfl) (fun t9 ht9 hW9 => ⟨0, rfl, Or.inr ⟨rfl, fun z => hr102 (pq_f4.mp ((pq_alw_n (κ := 9) (by omega)).mp z).1)⟩, ht9⟩) (fun q hq => by cases hq) dX5_fits_85
    · skip
      refine lv_if_eq (tgt := 11) hx hb dX5_fits_6 (by decide) (fun _ => ?_) (fun h111 => absurd (by decide) h111)
      refine lv_iload_n hx hb dX5_fits_11 rfl (lv_at hl 1 rfl) ?_
      refine lv_if_ne (tgt := 29) hx hb dX5_fits_12 (by decide) (fun _ => ?_) (fun h112 => absurd h112 (by decide))
      refine lv_iload_n hx hb dX5_fits_29 rfl (lv_at hl 1 rfl) ?_
      refine lv_iconst (v := 1) hx hb dX5_fits_30 (by decide) ?_
      refine lv_icmp_ne (tgt := 49) hx hb dX5_fits_31 (by decide) (fun _ => ?_) (fun h113 => absurd h113 (by decide))
      refine lv_iload_n hx hb dX5_fits_49 rfl (lv_at hl 1 rfl) ?_
      refine lv_bipush (v := nI 9) hx hb dX5_fits_50 (by decide) ?_
      refine lv_icmp_ne (tgt := 86) hx hb dX5_fits_52 (by decide) (fun _ => ?_) (fun h114 => absurd h114 (by decide))
      refine lv_iload_n hx hb dX5_fits_86 rfl (lv_at hl 1 rfl) ?_
      refine lv_bipush (v := nI 17) hx hb dX5_fits_87 (by decide) ?_
      refine lv_icmp_lt (tgt := 120) hx hb dX5_fits_89 (by decide) (fun _ => ?_) (fun h115 => absurd (by decide) h115)
      refine lv_aload_n hx hb dX5_fits_120 rfl (lv_at hl 0 rfl) ?_
      refine lv_iload_n hx hb dX5_fits_121 rfl (lv_at hl 2 rfl) ?_
      refine vp_callSi (W.runV (C := RX5) (b := ad 0) (As := [.int a0]) (rest := []) ⟨hx, hb, hml, hown, hts⟩ (ctX5_isNumber l dC dI cI ad aK aA aB aC aM aS aF aN th ck fo n mm lv hn fk hk hk2 a0) (cwV 1 hts (wA_wsV wm_ml_X5_85 wm_im_X5_isNumber wm_se_X5_isNumber wm_in_X5 wm_cd_X5_isNumber) rfl rfl rfl (by decide +kernel) ⟨Nat.le_of_ble_eq_true rfl, Nat.le_of_ble_eq_true rfl⟩) ⟨fun a U g mk q => by obtain ⟨q0, qP, qK⟩ := q; exact ⟨q0, qP, va_K.moved (u := U) (U := U.calling g mk a) (Vm.Alike.refl U.vm) qK⟩, va_recv (q := (RX5, TX5, 14)) (q0 := 0) hK hP rfl rfl, fun U hU hW => ⟨rfl, by rw [hU]; exact hP, va_K.moved hW.alike hK⟩⟩ rfl rfl hl.1 rfl (lv_room (Nat.le_of_ble_eq_true rfl)) dX5_fits_122 ⟨Nat.zero_le _, Nat.zero_le _⟩) (fun r116 er116 => ?_)
      rcases er116 with ⟨rfl, hr116⟩ | ⟨rfl, hr116⟩
      · skip
        refine lv_if_eq (tgt := 148) hx hb dX5_fits_125 (by decide) (fun h117 => absurd h117 (by decide)) (fun _ => ?_)
        refine lv_iload_n hx hb dX5_fits_128 rfl (lv_at hl 1 rfl) ?_
        refine vp_callSi (W.runS (As := [.int (nI 10)]) (rest := []) ⟨hx, hb, hml, hown, hts⟩ (ctX5_names l (nI 10)) (va_cwS 1 hts (wA_wsS wm_ml_X5_88 wm_st_X5_names wm_in_X5 wm_cd_X5_names) rfl rfl rfl (by decide +kernel) ⟨Nat.le_of_ble_eq_true rfl, Nat.le_of_ble_eq_true rfl⟩) ⟨fun a U g mk q => q, fun U hU hW => ⟨rfl, trivial⟩⟩ rfl rfl hl.1 rfl (lv_room (Nat.le_of_ble_eq_true rfl)) dX5_fits_129 ⟨Nat.zero_le _, Nat.zero_le _⟩) (fun r118 er118 => ?_)
        have er118 := er118.trans (show pm_nms (nI 10) = 2 by decide +kernel)
        subst er118
        refine lv_iconst (v := 1) hx hb dX5_fits_132 (by decide) ?_
        refine lv_icmp_eq (tgt := 144) hx hb dX5_fits_133 (by decide) (fun h119 => absurd h119 (by decide)) (fun _ => ?_)
        refine lv_aload_n hx hb dX5_fits_136 rfl (lv_at hl 0 rfl) ?_
        refine lv_iload_n hx hb dX5_fits_137 rfl (lv_at hl 3 rfl) ?_
        refine vp_callSi (W.runV (C := RX5) (b := ad 0) (As := [.int b0]) (rest := []) ⟨hx, hb, hml, hown, hts⟩ (ctX5_isNumber l dC dI cI ad aK aA aB aC aM aS aF aN th ck fo n mm lv hn fk hk hk2 b0) (cwV 1 hts (wA_wsV wm_ml_X5_85 wm_im_X5_isNumber wm_se_X5_isNumber wm_in_X5 wm_cd_X5_isNumber) rfl rfl rfl (by decide +kernel) ⟨Nat.le_of_ble_eq_true rfl, Nat.le_of_ble_eq_true rfl⟩) ⟨fun a U g mk q => by obtain ⟨q0, qP, qK⟩ := q; exact ⟨q0, qP, va_K.moved (u := U) (U := U.calling g mk a) (Vm.Alike.refl U.vm) qK⟩, va_recv (q := (RX5, TX5, 14)) (q0 := 0) hK hP rfl rfl, fun U hU hW => ⟨rfl, by rw [hU]; exact hP, va_K.moved hW.alike hK⟩⟩ rfl rfl hl.1 rfl (lv_room (Nat.le_of_ble_eq_true rfl)) dX5_fits_138 ⟨Nat.zero_le _, Nat.zero_le _⟩) (fun r120 er120 => ?_)
        rcases er120 with ⟨rfl, hr120⟩ | ⟨rfl, hr120⟩
        · skip
          refine lv_if_eq (tgt := 148) hx hb dX5_fits_141 (by decide) (fun h121 => absurd h121 (by decide)) (fun _ => ?_)
          refine lv_iconst (v := 1) hx hb dX5_fits_144 (by decide) ?_
          refine lv_goto (tgt := 149) hx hb dX5_fits_145 (by decide) ?_
          exact W.zret (v := 1) hx hb hr (rfl) (fun t9 ht9 hW9 => ⟨1, rfl, Or.inl ⟨rfl, (pq_alw_n (κ := 10) (by omega)).mpr ⟨pq_f3.mpr hr116, pq_f3.mpr hr120, Or.inl rfl⟩⟩, ht9⟩) (fun q hq => by cases hq) dX5_fits_149
        · skip
          refine lv_if_eq (tgt := 148) hx hb dX5_fits_141 (by decide) (fun _ => ?_) (fun h122 => absurd (by decide) h122)
          refine lv_iconst (v := 0) hx hb dX5_fits_148 (by decide) ?_
          exact W.zret (v := 0) hx hb hr (rfl) (fun t9 ht9 hW9 => ⟨0, rfl, Or.inr ⟨rfl, fun z => hr120 (pq_f3.mp ((pq_alw_n (κ := 10) (by omega)).mp z).2.1)⟩, ht9⟩) (fun q hq => by cases hq) dX5_fits_149
      · skip
        refine lv_if_eq (tgt := 148) hx hb dX5_fits_125 (by decide) (fun _ => ?_) (fun h123 => absurd (by decide) h123)
        refine lv_iconst (v := 0) hx hb dX5_fits_148 (by decide) ?_
        exact W.zret (v := 0) hx hb hr (rfl) (fun t9 ht9 hW9 => ⟨0, rfl, Or.inr ⟨rfl, fun z => hr116 (pq_f3.mp ((pq_alw_n (κ := 10) (by omega)).mp z).1)⟩, ht9⟩) (fun q hq => by cases hq) dX5_fits_149
    · skip
      refine lv_if_eq (tgt := 11) hx hb dX5_fits_6 (by decide) (fun _ => ?_) (fun h124 => absurd (by decide) h124)
      refine lv_iload_n hx hb dX5_fits_11 rfl (lv_at hl 1 rfl) ?_
      refine lv_if_ne (tgt := 29) hx hb dX5_fits_12 (by decide) (fun _ => ?_) (fun h125 => absurd h125 (by decide))
      refine lv_iload_n hx hb dX5_fits_29 rfl (lv_at hl 1 rfl) ?_
      refine lv_iconst (v := 1) hx hb dX5_fits_30 (by decide) ?_
      refine lv_icmp_ne (tgt := 49) hx hb dX5_fits_31 (by decide) (fun _ => ?_) (fun h126 => absurd h126 (by decide))
      refine lv_iload_n hx hb dX5_fits_49 rfl (lv_at hl 1 rfl) ?_
      refine lv_bipush (v := nI 9) hx hb dX5_fits_50 (by decide) ?_
      refine lv_icmp_ne (tgt := 86) hx hb dX5_fits_52 (by decide) (fun _ => ?_) (fun h127 => absurd h127 (by decide))
      refine lv_iload_n hx hb dX5_fits_86 rfl (lv_at hl 1 rfl) ?_
      refine lv_bipush (v := nI 17) hx hb dX5_fits_87 (by decide) ?_
      refine lv_icmp_lt (tgt := 120) hx hb dX5_fits_89 (by decide) (fun _ => ?_) (fun h128 => absurd (by decide) h128)
      refine lv_aload_n hx hb dX5_fits_120 rfl (lv_at hl 0 rfl) ?_
      refine lv_iload_n hx hb dX5_fits_121 rfl (lv_at hl 2 rfl) ?_
      refine vp_callSi (W.runV (C := RX5) (b := ad 0) (As := [.int a0]) (rest := []) ⟨hx, hb, hml, hown, hts⟩ (ctX5_isNumber l dC dI cI ad aK aA aB aC aM aS aF aN th ck fo n mm lv hn fk hk hk2 a0) (cwV 1 hts (wA_wsV wm_ml_X5_85 wm_im_X5_isNumber wm_se_X5_isNumber wm_in_X5 wm_cd_X5_isNumber) rfl rfl rfl (by decide +kernel) ⟨Nat.le_of_ble_eq_true rfl, Nat.le_of_ble_eq_true rfl⟩) ⟨fun a U g mk q => by obtain ⟨q0, qP, qK⟩ := q; exact ⟨q0, qP, va_K.moved (u := U) (U := U.calling g mk a) (Vm.Alike.refl U.vm) qK⟩, va_recv (q := (RX5, TX5, 14)) (q0 := 0) hK hP rfl rfl, fun U hU hW => ⟨rfl, by rw [hU]; exact hP, va_K.moved hW.alike hK⟩⟩ rfl rfl hl.1 rfl (lv_room (Nat.le_of_ble_eq_true rfl)) dX5_fits_122 ⟨Nat.zero_le _, Nat.zero_le _⟩) (fun r129 er129 => ?_)
      rcases er129 with ⟨rfl, hr129⟩ | ⟨rfl, hr129⟩
      · skip
        refine lv_if_eq (tgt := 148) hx hb dX5_fits_125 (by decide) (fun h130 => absurd h130 (by decide)) (fun _ => ?_)
        refine lv_iload_n hx hb dX5_fits_128 rfl (lv_at hl 1 rfl) ?_
        refine vp_callSi (W.runS (As := [.int (nI 11)]) (rest := []) ⟨hx, hb, hml, hown, hts⟩ (ctX5_names l (nI 11)) (va_cwS 1 hts (wA_wsS wm_ml_X5_88 wm_st_X5_names wm_in_X5 wm_cd_X5_names) rfl rfl rfl (by decide +kernel) ⟨Nat.le_of_ble_eq_true rfl, Nat.le_of_ble_eq_true rfl⟩) ⟨fun a U g mk q => q, fun U hU hW => ⟨rfl, trivial⟩⟩ rfl rfl hl.1 rfl (lv_room (Nat.le_of_ble_eq_true rfl)) dX5_fits_129 ⟨Nat.zero_le _, Nat.zero_le _⟩) (fun r131 er131 => ?_)
        have er131 := er131.trans (show pm_nms (nI 11) = 2 by decide +kernel)
        subst er131
        refine lv_iconst (v := 1) hx hb dX5_fits_132 (by decide) ?_
        refine lv_icmp_eq (tgt := 144) hx hb dX5_fits_133 (by decide) (fun h132 => absurd h132 (by decide)) (fun _ => ?_)
        refine lv_aload_n hx hb dX5_fits_136 rfl (lv_at hl 0 rfl) ?_
        refine lv_iload_n hx hb dX5_fits_137 rfl (lv_at hl 3 rfl) ?_
        refine vp_callSi (W.runV (C := RX5) (b := ad 0) (As := [.int b0]) (rest := []) ⟨hx, hb, hml, hown, hts⟩ (ctX5_isNumber l dC dI cI ad aK aA aB aC aM aS aF aN th ck fo n mm lv hn fk hk hk2 b0) (cwV 1 hts (wA_wsV wm_ml_X5_85 wm_im_X5_isNumber wm_se_X5_isNumber wm_in_X5 wm_cd_X5_isNumber) rfl rfl rfl (by decide +kernel) ⟨Nat.le_of_ble_eq_true rfl, Nat.le_of_ble_eq_true rfl⟩) ⟨fun a U g mk q => by obtain ⟨q0, qP, qK⟩ := q; exact ⟨q0, qP, va_K.moved (u := U) (U := U.calling g mk a) (Vm.Alike.refl U.vm) qK⟩, va_recv (q := (RX5, TX5, 14)) (q0 := 0) hK hP rfl rfl, fun U hU hW => ⟨rfl, by rw [hU]; exact hP, va_K.moved hW.alike hK⟩⟩ rfl rfl hl.1 rfl (lv_room (Nat.le_of_ble_eq_true rfl)) dX5_fits_138 ⟨Nat.zero_le _, Nat.zero_le _⟩) (fun r133 er133 => ?_)
        rcases er133 with ⟨rfl, hr133⟩ | ⟨rfl, hr133⟩
        · skip
          refine lv_if_eq (tgt := 148) hx hb dX5_fits_141 (by decide) (fun h134 => absurd h134 (by decide)) (fun _ => ?_)
          refine lv_iconst (v := 1) hx hb dX5_fits_144 (by decide) ?_
          refine lv_goto (tgt := 149) hx hb dX5_fits_145 (by decide) ?_
          exact W.zret (v := 1) hx hb hr (rfl) (fun t9 ht9 hW9 => ⟨1, rfl, Or.inl ⟨rfl, (pq_alw_n (κ := 11) (by omega)).mpr ⟨pq_f3.mpr hr129, pq_f3.mpr hr133, Or.inl rfl⟩⟩, ht9⟩) (fun q hq => by cases hq) dX5_fits_149
        · skip
          refine lv_if_eq (tgt := 148) hx hb dX5_fits_141 (by decide) (fun _ => ?_) (fun h135 => absurd (by decide) h135)
          refine lv_iconst (v := 0) hx hb dX5_fits_148 (by decide) ?_
          exact W.zret (v := 0) hx hb hr (rfl) (fun t9 ht9 hW9 => ⟨0, rfl, Or.inr ⟨rfl, fun z => hr133 (pq_f3.mp ((pq_alw_n (κ := 11) (by omega)).mp z).2.1)⟩, ht9⟩) (fun q hq => by cases hq) dX5_fits_149
      · skip
        refine lv_if_eq (tgt := 148) hx hb dX5_fits_125 (by decide) (fun _ => ?_) (fun h136 => absurd (by decide) h136)
        refine lv_iconst (v := 0) hx hb dX5_fits_148 (by decide) ?_
        exact W.zret (v := 0) hx hb hr (rfl) (fun t9 ht9 hW9 => ⟨0, rfl, Or.inr ⟨rfl, fun z => hr129 (pq_f3.mp ((pq_alw_n (κ := 11) (by omega)).mp z).1)⟩, ht9⟩) (fun q hq => by cases hq) dX5_fits_149
    · skip
      refine lv_if_eq (tgt := 11) hx hb dX5_fits_6 (by decide) (fun _ => ?_) (fun h137 => absurd (by decide) h137)
      refine lv_iload_n hx hb dX5_fits_11 rfl (lv_at hl 1 rfl) ?_
      refine lv_if_ne (tgt := 29) hx hb dX5_fits_12 (by decide) (fun _ => ?_) (fun h138 => absurd h138 (by decide))
      refine lv_iload_n hx hb dX5_fits_29 rfl (lv_at hl 1 rfl) ?_
      refine lv_iconst (v := 1) hx hb dX5_fits_30 (by decide) ?_
      refine lv_icmp_ne (tgt := 49) hx hb dX5_fits_31 (by decide) (fun _ => ?_) (fun h139 => absurd h139 (by decide))
      refine lv_iload_n hx hb dX5_fits_49 rfl (lv_at hl 1 rfl) ?_
      refine lv_bipush (v := nI 9) hx hb dX5_fits_50 (by decide) ?_
      refine lv_icmp_ne (tgt := 86) hx hb dX5_fits_52 (by decide) (fun _ => ?_) (fun h140 => absurd h140 (by decide))
      refine lv_iload_n hx hb dX5_fits_86 rfl (lv_at hl 1 rfl) ?_
      refine lv_bipush (v := nI 17) hx hb dX5_fits_87 (by decide) ?_
      refine lv_icmp_lt (tgt := 120) hx hb dX5_fits_89 (by decide) (fun _ => ?_) (fun h141 => absurd (by decide) h141)
      refine lv_aload_n hx hb dX5_fits_120 rfl (lv_at hl 0 rfl) ?_
      refine lv_iload_n hx hb dX5_fits_121 rfl (lv_at hl 2 rfl) ?_
      refine vp_callSi (W.runV (C := RX5) (b := ad 0) (As := [.int a0]) (rest := []) ⟨hx, hb, hml, hown, hts⟩ (ctX5_isNumber l dC dI cI ad aK aA aB aC aM aS aF aN th ck fo n mm lv hn fk hk hk2 a0) (cwV 1 hts (wA_wsV wm_ml_X5_85 wm_im_X5_isNumber wm_se_X5_isNumber wm_in_X5 wm_cd_X5_isNumber) rfl rfl rfl (by decide +kernel) ⟨Nat.le_of_ble_eq_true rfl, Nat.le_of_ble_eq_true rfl⟩) ⟨fun a U g mk q => by obtain ⟨q0, qP, qK⟩ := q; exact ⟨q0, qP, va_K.moved (u := U) (U := U.calling g mk a) (Vm.Alike.refl U.vm) qK⟩, va_recv (q := (RX5, TX5, 14)) (q0 := 0) hK hP rfl rfl, fun U hU hW => ⟨rfl, by rw [hU]; exact hP, va_K.moved hW.alike hK⟩⟩ rfl rfl hl.1 rfl (lv_room (Nat.le_of_ble_eq_true rfl)) dX5_fits_122 ⟨Nat.zero_le _, Nat.zero_le _⟩) (fun r142 er142 => ?_)
      rcases er142 with ⟨rfl, hr142⟩ | ⟨rfl, hr142⟩
      · skip
        refine lv_if_eq (tgt := 148) hx hb dX5_fits_125 (by decide) (fun h143 => absurd h143 (by decide)) (fun _ => ?_)
        refine lv_iload_n hx hb dX5_fits_128 rfl (lv_at hl 1 rfl) ?_
        refine vp_callSi (W.runS (As := [.int (nI 12)]) (rest := []) ⟨hx, hb, hml, hown, hts⟩ (ctX5_names l (nI 12)) (va_cwS 1 hts (wA_wsS wm_ml_X5_88 wm_st_X5_names wm_in_X5 wm_cd_X5_names) rfl rfl rfl (by decide +kernel) ⟨Nat.le_of_ble_eq_true rfl, Nat.le_of_ble_eq_true rfl⟩) ⟨fun a U g mk q => q, fun U hU hW => ⟨rfl, trivial⟩⟩ rfl rfl hl.1 rfl (lv_room (Nat.le_of_ble_eq_true rfl)) dX5_fits_129 ⟨Nat.zero_le _, Nat.zero_le _⟩) (fun r144 er144 => ?_)
        have er144 := er144.trans (show pm_nms (nI 12) = 2 by decide +kernel)
        subst er144
        refine lv_iconst (v := 1) hx hb dX5_fits_132 (by decide) ?_
        refine lv_icmp_eq (tgt := 144) hx hb dX5_fits_133 (by decide) (fun h145 => absurd h145 (by decide)) (fun _ => ?_)
        refine lv_aload_n hx hb dX5_fits_136 rfl (lv_at hl 0 rfl) ?_
        refine lv_iload_n hx hb dX5_fits_137 rfl (lv_at hl 3 rfl) ?_
        refine vp_callSi (W.runV (C := RX5) (b := ad 0) (As := [.int b0]) (rest := []) ⟨hx, hb, hml, hown, hts⟩ (ctX5_isNumber l dC dI cI ad aK aA aB aC aM aS aF aN th ck fo n mm lv hn fk hk hk2 b0) (cwV 1 hts (wA_wsV wm_ml_X5_85 wm_im_X5_isNumber wm_se_X5_isNumber wm_in_X5 wm_cd_X5_isNumber) rfl rfl rfl (by decide +kernel) ⟨Nat.le_of_ble_eq_true rfl, Nat.le_of_ble_eq_true rfl⟩) ⟨fun a U g mk q => by obtain ⟨q0, qP, qK⟩ := q; exact ⟨q0, qP, va_K.moved (u := U) (U := U.calling g mk a) (Vm.Alike.refl U.vm) qK⟩, va_recv (q := (RX5, TX5, 14)) (q0 := 0) hK hP rfl rfl, fun U hU hW => ⟨rfl, by rw [hU]; exact hP, va_K.moved hW.alike hK⟩⟩ rfl rfl hl.1 rfl (lv_room (Nat.le_of_ble_eq_true rfl)) dX5_fits_138 ⟨Nat.zero_le _, Nat.zero_le _⟩) (fun r146 er146 => ?_)
        rcases er146 with ⟨rfl, hr146⟩ | ⟨rfl, hr146⟩
        · skip
          refine lv_if_eq (tgt := 148) hx hb dX5_fits_141 (by decide) (fun h147 => absurd h147 (by decide)) (fun _ => ?_)
          refine lv_iconst (v := 1) hx hb dX5_fits_144 (by decide) ?_
          refine lv_goto (tgt := 149) hx hb dX5_fits_145 (by decide) ?_
          exact W.zret (v := 1) hx hb hr (rfl) (fun t9 ht9 hW9 => ⟨1, rfl, Or.inl ⟨rfl, (pq_alw_n (κ := 12) (by omega)).mpr ⟨pq_f3.mpr hr142, pq_f3.mpr hr146, Or.inl rfl⟩⟩, ht9⟩) (fun q hq => by cases hq) dX5_fits_149
        · skip
          refine lv_if_eq (tgt := 148) hx hb dX5_fits_141 (by decide) (fun _ => ?_) (fun h148 => absurd (by decide) h148)
          refine lv_iconst (v := 0) hx hb dX5_fits_148 (by decide) ?_
          exact W.zret (v := 0) hx hb hr (rfl) (fun t9 ht9 hW9 => ⟨0, rfl, Or.inr ⟨rfl, fun z => hr146 (pq_f3.mp ((pq_alw_n (κ := 12) (by omega)).mp z).2.1)⟩, ht9⟩) (fun q hq => by cases hq) dX5_fits_149
      · skip
        refine lv_if_eq (tgt := 148) hx hb dX5_fits_125 (by decide) (fun _ => ?_) (fun h149 => absurd (by decide) h149)
        refine lv_iconst (v := 0) hx hb dX5_fits_148 (by decide) ?_
        exact W.zret (v := 0) hx hb hr (rfl) (fun t9 ht9 hW9 => ⟨0, rfl, Or.inr ⟨rfl, fun z => hr142 (pq_f3.mp ((pq_alw_n (κ := 12) (by omega)).mp z).1)⟩, ht9⟩) (fun q hq => by cases hq) dX5_fits_149
    · skip
      refine lv_if_eq (tgt := 11) hx hb dX5_fits_6 (by decide) (fun _ => ?_) (fun h150 => absurd (by decide) h150)
      refine lv_iload_n hx hb dX5_fits_11 rfl (lv_at hl 1 rfl) ?_
      refine lv_if_ne (tgt := 29) hx hb dX5_fits_12 (by decide) (fun _ => ?_) (fun h151 => absurd h151 (by decide))
      refine lv_iload_n hx hb dX5_fits_29 rfl (lv_at hl 1 rfl) ?_
      refine lv_iconst (v := 1) hx hb dX5_fits_30 (by decide) ?_
      refine lv_icmp_ne (tgt := 49) hx hb dX5_fits_31 (by decide) (fun _ => ?_) (fun h152 => absurd h152 (by decide))
      refine lv_iload_n hx hb dX5_fits_49 rfl (lv_at hl 1 rfl) ?_
      refine lv_bipush (v := nI 9) hx hb dX5_fits_50 (by decide) ?_
      refine lv_icmp_ne (tgt := 86) hx hb dX5_fits_52 (by decide) (fun _ => ?_) (fun h153 => absurd h153 (by decide))
      refine lv_iload_n hx hb dX5_fits_86 rfl (lv_at hl 1 rfl) ?_
      refine lv_bipush (v := nI 17) hx hb dX5_fits_87 (by decide) ?_
      refine lv_icmp_lt (tgt := 120) hx hb dX5_fits_89 (by decide) (fun _ => ?_) (fun h154 => absurd (by decide) h154)
      refine lv_aload_n hx hb dX5_fits_120 rfl (lv_at hl 0 rfl) ?_
      refine lv_iload_n hx hb dX5_fits_121 rfl (lv_at hl 2 rfl) ?_
      refine vp_callSi (W.runV (C := RX5) (b := ad 0) (As := [.int a0]) (rest := []) ⟨hx, hb, hml, hown, hts⟩ (ctX5_isNumber l dC dI cI ad aK aA aB aC aM aS aF aN th ck fo n mm lv hn fk hk hk2 a0) (cwV 1 hts (wA_wsV wm_ml_X5_85 wm_im_X5_isNumber wm_se_X5_isNumber wm_in_X5 wm_cd_X5_isNumber) rfl rfl rfl (by decide +kernel) ⟨Nat.le_of_ble_eq_true rfl, Nat.le_of_ble_eq_true rfl⟩) ⟨fun a U g mk q => by obtain ⟨q0, qP, qK⟩ := q; exact ⟨q0, qP, va_K.moved (u := U) (U := U.calling g mk a) (Vm.Alike.refl U.vm) qK⟩, va_recv (q := (RX5, TX5, 14)) (q0 := 0) hK hP rfl rfl, fun U hU hW => ⟨rfl, by rw [hU]; exact hP, va_K.moved hW.alike hK⟩⟩ rfl rfl hl.1 rfl (lv_room (Nat.le_of_ble_eq_true rfl)) dX5_fits_122 ⟨Nat.zero_le _, Nat.zero_le _⟩) (fun r155 er155 => ?_)
      rcases er155 with ⟨rfl, hr155⟩ | ⟨rfl, hr155⟩
      · skip
        refine lv_if_eq (tgt := 148) hx hb dX5_fits_125 (by decide) (fun h156 => absurd h156 (by decide)) (fun _ => ?_)
        refine lv_iload_n hx hb dX5_fits_128 rfl (lv_at hl 1 rfl) ?_
        refine vp_callSi (W.runS (As := [.int (nI 13)]) (rest := []) ⟨hx, hb, hml, hown, hts⟩ (ctX5_names l (nI 13)) (va_cwS 1 hts (wA_wsS wm_ml_X5_88 wm_st_X5_names wm_in_X5 wm_cd_X5_names) rfl rfl rfl (by decide +kernel) ⟨Nat.le_of_ble_eq_true rfl, Nat.le_of_ble_eq_true rfl⟩) ⟨fun a U g mk q => q, fun U hU hW => ⟨rfl, trivial⟩⟩ rfl rfl hl.1 rfl (lv_room (Nat.le_of_ble_eq_true rfl)) dX5_fits_129 ⟨Nat.zero_le _, Nat.zero_le _⟩) (fun r157 er157 => ?_)
        have er157 := er157.trans (show pm_nms (nI 13) = 2 by decide +kernel)
        subst er157
        refine lv_iconst (v := 1) hx hb dX5_fits_132 (by decide) ?_
        refine lv_icmp_eq (tgt := 144) hx hb dX5_fits_133 (by decide) (fun h158 => absurd h158 (by decide)) (fun _ => ?_)
        refine lv_aload_n hx hb dX5_fits_136 rfl (lv_at hl 0 rfl) ?_
        refine lv_iload_n hx hb dX5_fits_137 rfl (lv_at hl 3 rfl) ?_
        refine vp_callSi (W.runV (C := RX5) (b := ad 0) (As := [.int b0]) (rest := []) ⟨hx, hb, hml, hown, hts⟩ (ctX5_isNumber l dC dI cI ad aK aA aB aC aM aS aF aN th ck fo n mm lv hn fk hk hk2 b0) (cwV 1 hts (wA_wsV wm_ml_X5_85 wm_im_X5_isNumber wm_se_X5_isNumber wm_in_X5 wm_cd_X5_isNumber) rfl rfl rfl (by decide +kernel) ⟨Nat.le_of_ble_eq_true rfl, Nat.le_of_ble_eq_true rfl⟩) ⟨fun a U g mk q => by obtain ⟨q0, qP, qK⟩ := q; exact ⟨q0, qP, va_K.moved (u := U) (U := U.calling g mk a) (Vm.Alike.refl U.vm) qK⟩, va_recv (q := (RX5, TX5, 14)) (q0 := 0) hK hP rfl rfl, fun U hU hW => ⟨rfl, by rw [hU]; exact hP, va_K.moved hW.alike hK⟩⟩ rfl rfl hl.1 rfl (lv_room (Nat.le_of_ble_eq_true rfl)) dX5_fits_138 ⟨Nat.zero_le _, Nat.zero_le _⟩) (fun r159 er159 => ?_)
        rcases er159 with ⟨rfl, hr159⟩ | ⟨rfl, hr159⟩
        · skip
          refine lv_if_eq (tgt := 148) hx hb dX5_fits_141 (by decide) (fun h160 => absurd h160 (by decide)) (fun _ => ?_)
          refine lv_iconst (v := 1) hx hb dX5_fits_144 (by decide) ?_
          refine lv_goto (tgt := 149) hx hb dX5_fits_145 (by decide) ?_
          exact W.zret (v := 1) hx hb hr (rfl) (fun t9 ht9 hW9 => ⟨1, rfl, Or.inl ⟨rfl, (pq_alw_n (κ := 13) (by omega)).mpr ⟨pq_f3.mpr hr155, pq_f3.mpr hr159, Or.inl rfl⟩⟩, ht9⟩) (fun q hq => by cases hq) dX5_fits_149
        · skip
          refine lv_if_eq (tgt := 148) hx hb dX5_fits_141 (by decide) (fun _ => ?_) (fun h161 => absurd (by decide) h161)
          refine lv_iconst (v := 0) hx hb dX5_fits_148 (by decide) ?_
          exact W.zret (v := 0) hx hb hr (rfl) (fun t9 ht9 hW9 => ⟨0, rfl, Or.inr ⟨rfl, fun z => hr159 (pq_f3.mp ((pq_alw_n (κ := 13) (by omega)).mp z).2.1)⟩, ht9⟩) (fun q hq => by cases hq) dX5_fits_149
      · skip
        refine lv_if_eq (tgt := 148) hx hb dX5_fits_125 (by decide) (fun _ => ?_) (fun h162 => absurd (by decide) h162)
        refine lv_iconst (v := 0) hx hb dX5_fits_148 (by decide) ?_
        exact W.zret (v := 0) hx hb hr (rfl) (fun t9 ht9 hW9 => ⟨0, rfl, Or.inr ⟨rfl, fun z => hr155 (pq_f3.mp ((pq_alw_n (κ := 13) (by omega)).mp z).1)⟩, ht9⟩) (fun q hq => by cases hq) dX5_fits_149
    · skip
      refine lv_if_eq (tgt := 11) hx hb dX5_fits_6 (by decide) (fun _ => ?_) (fun h163 => absurd (by decide) h163)
      refine lv_iload_n hx hb dX5_fits_11 rfl (lv_at hl 1 rfl) ?_
      refine lv_if_ne (tgt := 29) hx hb dX5_fits_12 (by decide) (fun _ => ?_) (fun h164 => absurd h164 (by decide))
      refine lv_iload_n hx hb dX5_fits_29 rfl (lv_at hl 1 rfl) ?_
      refine lv_iconst (v := 1) hx hb dX5_fits_30 (by decide) ?_
      refine lv_icmp_ne (tgt := 49) hx hb dX5_fits_31 (by decide) (fun _ => ?_) (fun h165 => absurd h165 (by decide))
      refine lv_iload_n hx hb dX5_fits_49 rfl (lv_at hl 1 rfl) ?_
      refine lv_bipush (v := nI 9) hx hb dX5_fits_50 (by decide) ?_
      refine lv_icmp_ne (tgt := 86) hx hb dX5_fits_52 (by decide) (fun _ => ?_) (fun h166 => absurd h166 (by decide))
      refine lv_iload_n hx hb dX5_fits_86 rfl (lv_at hl 1 rfl) ?_
      refine lv_bipush (v := nI 17) hx hb dX5_fits_87 (by decide) ?_
      refine lv_icmp_lt (tgt := 120) hx hb dX5_fits_89 (by decide) (fun _ => ?_) (fun h167 => absurd (by decide) h167)
      refine lv_aload_n hx hb dX5_fits_120 rfl (lv_at hl 0 rfl) ?_
      refine lv_iload_n hx hb dX5_fits_121 rfl (lv_at hl 2 rfl) ?_
      refine vp_callSi (W.runV (C := RX5) (b := ad 0) (As := [.int a0]) (rest := []) ⟨hx, hb, hml, hown, hts⟩ (ctX5_isNumber l dC dI cI ad aK aA aB aC aM aS aF aN th ck fo n mm lv hn fk hk hk2 a0) (cwV 1 hts (wA_wsV wm_ml_X5_85 wm_im_X5_isNumber wm_se_X5_isNumber wm_in_X5 wm_cd_X5_isNumber) rfl rfl rfl (by decide +kernel) ⟨Nat.le_of_ble_eq_true rfl, Nat.le_of_ble_eq_true rfl⟩) ⟨fun a U g mk q => by obtain ⟨q0, qP, qK⟩ := q; exact ⟨q0, qP, va_K.moved (u := U) (U := U.calling g mk a) (Vm.Alike.refl U.vm) qK⟩, va_recv (q := (RX5, TX5, 14)) (q0 := 0) hK hP rfl rfl, fun U hU hW => ⟨rfl, by rw [hU]; exact hP, va_K.moved hW.alike hK⟩⟩ rfl rfl hl.1 rfl (lv_room (Nat.le_of_ble_eq_true rfl)) dX5_fits_122 ⟨Nat.zero_le _, Nat.zero_le _⟩) (fun r168 er168 => ?_)
      rcases er168 with ⟨rfl, hr168⟩ | ⟨rfl, hr168⟩
      · skip
        refine lv_if_eq (tgt := 148) hx hb dX5_fits_125 (by decide) (fun h169 => absurd h169 (by decide)) (fun _ => ?_)
        refine lv_iload_n hx hb dX5_fits_128 rfl (lv_at hl 1 rfl) ?_
        refine vp_callSi (W.runS (As := [.int (nI 14)]) (rest := []) ⟨hx, hb, hml, hown, hts⟩ (ctX5_names l (nI 14)) (va_cwS 1 hts (wA_wsS wm_ml_X5_88 wm_st_X5_names wm_in_X5 wm_cd_X5_names) rfl rfl rfl (by decide +kernel) ⟨Nat.le_of_ble_eq_true rfl, Nat.le_of_ble_eq_true rfl⟩) ⟨fun a U g mk q => q, fun U hU hW => ⟨rfl, trivial⟩⟩ rfl rfl hl.1 rfl (lv_room (Nat.le_of_ble_eq_true rfl)) dX5_fits_129 ⟨Nat.zero_le _, Nat.zero_le _⟩) (fun r170 er170 => ?_)
        have er170 := er170.trans (show pm_nms (nI 14) = 1 by decide +kernel)
        subst er170
        refine lv_iconst (v := 1) hx hb dX5_fits_132 (by decide) ?_
        refine lv_icmp_eq (tgt := 144) hx hb dX5_fits_133 (by decide) (fun _ => ?_) (fun h171 => absurd (by decide) h171)
        refine lv_iconst (v := 1) hx hb dX5_fits_144 (by decide) ?_
        refine lv_goto (tgt := 149) hx hb dX5_fits_145 (by decide) ?_
        exact W.zret (v := 1) hx hb hr (rfl) (fun t9 ht9 hW9 => ⟨1, rfl, Or.inl ⟨rfl, (pq_alw_n (κ := 14) (by omega)).mpr ⟨pq_f3.mpr hr168, Or.inl rfl, Or.inl rfl⟩⟩, ht9⟩) (fun q hq => by cases hq) dX5_fits_149
      · skip
        refine lv_if_eq (tgt := 148) hx hb dX5_fits_125 (by decide) (fun _ => ?_) (fun h172 => absurd (by decide) h172)
        refine lv_iconst (v := 0) hx hb dX5_fits_148 (by decide) ?_
        exact W.zret (v := 0) hx hb hr (rfl) (fun t9 ht9 hW9 => ⟨0, rfl, Or.inr ⟨rfl, fun z => hr168 (pq_f3.mp ((pq_alw_n (κ := 14) (by omega)).mp z).1)⟩, ht9⟩) (fun q hq => by cases hq) dX5_fits_149
    · skip
      refine lv_if_eq (tgt := 11) hx hb dX5_fits_6 (by decide) (fun _ => ?_) (fun h173 => absurd (by decide) h173)
      refine lv_iload_n hx hb dX5_fits_11 rfl (lv_at hl 1 rfl) ?_
      refine lv_if_ne (tgt := 29) hx hb dX5_fits_12 (by decide) (fun _ => ?_) (fun h174 => absurd h174 (by decide))
      refine lv_iload_n hx hb dX5_fits_29 rfl (lv_at hl 1 rfl) ?_
      refine lv_iconst (v := 1) hx hb dX5_fits_30 (by decide) ?_
      refine lv_icmp_ne (tgt := 49) hx hb dX5_fits_31 (by decide) (fun _ => ?_) (fun h175 => absurd h175 (by decide))
      refine lv_iload_n hx hb dX5_fits_49 rfl (lv_at hl 1 rfl) ?_
      refine lv_bipush (v := nI 9) hx hb dX5_fits_50 (by decide) ?_
      refine lv_icmp_ne (tgt := 86) hx hb dX5_fits_52 (by decide) (fun _ => ?_) (fun h176 => absurd h176 (by decide))
      refine lv_iload_n hx hb dX5_fits_86 rfl (lv_at hl 1 rfl) ?_
      refine lv_bipush (v := nI 17) hx hb dX5_fits_87 (by decide) ?_
      refine lv_icmp_lt (tgt := 120) hx hb dX5_fits_89 (by decide) (fun _ => ?_) (fun h177 => absurd (by decide) h177)
      refine lv_aload_n hx hb dX5_fits_120 rfl (lv_at hl 0 rfl) ?_
      refine lv_iload_n hx hb dX5_fits_121 rfl (lv_at hl 2 rfl) ?_
      refine vp_callSi (W.runV (C := RX5) (b := ad 0) (As := [.int a0]) (rest := []) ⟨hx, hb, hml, hown, hts⟩ (ctX5_isNumber l dC dI cI ad aK aA aB aC aM aS aF aN th ck fo n mm lv hn fk hk hk2 a0) (cwV 1 hts (wA_wsV wm_ml_X5_85 wm_im_X5_isNumber wm_se_X5_isNumber wm_in_X5 wm_cd_X5_isNumber) rfl rfl rfl (by decide +kernel) ⟨Nat.le_of_ble_eq_true rfl, Nat.le_of_ble_eq_true rfl⟩) ⟨fun a U g mk q => by obtain ⟨q0, qP, qK⟩ := q; exact ⟨q0, qP, va_K.moved (u := U) (U := U.calling g mk a) (Vm.Alike.refl U.vm) qK⟩, va_recv (q := (RX5, TX5, 14)) (q0 := 0) hK hP rfl rfl, fun U hU hW => ⟨rfl, by rw [hU]; exact hP, va_K.moved hW.alike hK⟩⟩ rfl rfl hl.1 rfl (lv_room (Nat.le_of_ble_eq_true rfl)) dX5_fits_122 ⟨Nat.zero_le _, Nat.zero_le _⟩) (fun r178 er178 => ?_)
      rcases er178 with ⟨rfl, hr178⟩ | ⟨rfl, hr178⟩
      · skip
        refine lv_if_eq (tgt := 148) hx hb dX5_fits_125 (by decide) (fun h179 => absurd h179 (by decide)) (fun _ => ?_)
        refine lv_iload_n hx hb dX5_fits_128 rfl (lv_at hl 1 rfl) ?_
        refine vp_callSi (W.runS (As := [.int (nI 15)]) (rest := []) ⟨hx, hb, hml, hown, hts⟩ (ctX5_names l (nI 15)) (va_cwS 1 hts (wA_wsS wm_ml_X5_88 wm_st_X5_names wm_in_X5 wm_cd_X5_names) rfl rfl rfl (by decide +kernel) ⟨Nat.le_of_ble_eq_true rfl, Nat.le_of_ble_eq_true rfl⟩) ⟨fun a U g mk q => q, fun U hU hW => ⟨rfl, trivial⟩⟩ rfl rfl hl.1 rfl (lv_room (Nat.le_of_ble_eq_true rfl)) dX5_fits_129 ⟨Nat.zero_le _, Nat.zero_le _⟩) (fun r180 er180 => ?_)
        have er180 := er180.trans (show pm_nms (nI 15) = 1 by decide +kernel)
        subst er180
        refine lv_iconst (v := 1) hx hb dX5_fits_132 (by decide) ?_
        refine lv_icmp_eq (tgt := 144) hx hb dX5_fits_133 (by decide) (fun _ => ?_) (fun h181 => absurd (by decide) h181)
        refine lv_iconst (v := 1) hx hb dX5_fits_144 (by decide) ?_
        refine lv_goto (tgt := 149) hx hb dX5_fits_145 (by decide) ?_
        exact W.zret (v := 1) hx hb hr (rfl) (fun t9 ht9 hW9 => ⟨1, rfl, Or.inl ⟨rfl, (pq_alw_n (κ := 15) (by omega)).mpr ⟨pq_f3.mpr hr178, Or.inl rfl, Or.inl rfl⟩⟩, ht9⟩) (fun q hq => by cases hq) dX5_fits_149
      · skip
        refine lv_if_eq (tgt := 148) hx hb dX5_fits_125 (by decide) (fun _ => ?_) (fun h182 => absurd (by decide) h182)
        refine lv_iconst (v := 0) hx hb dX5_fits_148 (by decide) ?_
        exact W.zret (v := 0) hx hb hr (rfl) (fun t9 ht9 hW9 => ⟨0, rfl, Or.inr ⟨rfl, fun z => hr178 (pq_f3.mp ((pq_alw_n (κ := 15) (by omega)).mp z).1)⟩, ht9⟩) (fun q hq => by cases hq) dX5_fits_149
    · skip
      refine lv_if_eq (tgt := 11) hx hb dX5_fits_6 (by decide) (fun _ => ?_) (fun h183 => absurd (by decide) h183)
      refine lv_iload_n hx hb dX5_fits_11 rfl (lv_at hl 1 rfl) ?_
      refine lv_if_ne (tgt := 29) hx hb dX5_fits_12 (by decide) (fun _ => ?_) (fun h184 => absurd h184 (by decide))
      refine lv_iload_n hx hb dX5_fits_29 rfl (lv_at hl 1 rfl) ?_
      refine lv_iconst (v := 1) hx hb dX5_fits_30 (by decide) ?_
      refine lv_icmp_ne (tgt := 49) hx hb dX5_fits_31 (by decide) (fun _ => ?_) (fun h185 => absurd h185 (by decide))
      refine lv_iload_n hx hb dX5_fits_49 rfl (lv_at hl 1 rfl) ?_
      refine lv_bipush (v := nI 9) hx hb dX5_fits_50 (by decide) ?_
      refine lv_icmp_ne (tgt := 86) hx hb dX5_fits_52 (by decide) (fun _ => ?_) (fun h186 => absurd h186 (by decide))
      refine lv_iload_n hx hb dX5_fits_86 rfl (lv_at hl 1 rfl) ?_
      refine lv_bipush (v := nI 17) hx hb dX5_fits_87 (by decide) ?_
      refine lv_icmp_lt (tgt := 120) hx hb dX5_fits_89 (by decide) (fun _ => ?_) (fun h187 => absurd (by decide) h187)
      refine lv_aload_n hx hb dX5_fits_120 rfl (lv_at hl 0 rfl) ?_
      refine lv_iload_n hx hb dX5_fits_121 rfl (lv_at hl 2 rfl) ?_
      refine vp_callSi (W.runV (C := RX5) (b := ad 0) (As := [.int a0]) (rest := []) ⟨hx, hb, hml, hown, hts⟩ (ctX5_isNumber l dC dI cI ad aK aA aB aC aM aS aF aN th ck fo n mm lv hn fk hk hk2 a0) (cwV 1 hts (wA_wsV wm_ml_X5_85 wm_im_X5_isNumber wm_se_X5_isNumber wm_in_X5 wm_cd_X5_isNumber) rfl rfl rfl (by decide +kernel) ⟨Nat.le_of_ble_eq_true rfl, Nat.le_of_ble_eq_true rfl⟩) ⟨fun a U g mk q => by obtain ⟨q0, qP, qK⟩ := q; exact ⟨q0, qP, va_K.moved (u := U) (U := U.calling g mk a) (Vm.Alike.refl U.vm) qK⟩, va_recv (q := (RX5, TX5, 14)) (q0 := 0) hK hP rfl rfl, fun U hU hW => ⟨rfl, by rw [hU]; exact hP, va_K.moved hW.alike hK⟩⟩ rfl rfl hl.1 rfl (lv_room (Nat.le_of_ble_eq_true rfl)) dX5_fits_122 ⟨Nat.zero_le _, Nat.zero_le _⟩) (fun r188 er188 => ?_)
      rcases er188 with ⟨rfl, hr188⟩ | ⟨rfl, hr188⟩
      · skip
        refine lv_if_eq (tgt := 148) hx hb dX5_fits_125 (by decide) (fun h189 => absurd h189 (by decide)) (fun _ => ?_)
        refine lv_iload_n hx hb dX5_fits_128 rfl (lv_at hl 1 rfl) ?_
        refine vp_callSi (W.runS (As := [.int (nI 16)]) (rest := []) ⟨hx, hb, hml, hown, hts⟩ (ctX5_names l (nI 16)) (va_cwS 1 hts (wA_wsS wm_ml_X5_88 wm_st_X5_names wm_in_X5 wm_cd_X5_names) rfl rfl rfl (by decide +kernel) ⟨Nat.le_of_ble_eq_true rfl, Nat.le_of_ble_eq_true rfl⟩) ⟨fun a U g mk q => q, fun U hU hW => ⟨rfl, trivial⟩⟩ rfl rfl hl.1 rfl (lv_room (Nat.le_of_ble_eq_true rfl)) dX5_fits_129 ⟨Nat.zero_le _, Nat.zero_le _⟩) (fun r190 er190 => ?_)
        have er190 := er190.trans (show pm_nms (nI 16) = 1 by decide +kernel)
        subst er190
        refine lv_iconst (v := 1) hx hb dX5_fits_132 (by decide) ?_
        refine lv_icmp_eq (tgt := 144) hx hb dX5_fits_133 (by decide) (fun _ => ?_) (fun h191 => absurd (by decide) h191)
        refine lv_iconst (v := 1) hx hb dX5_fits_144 (by decide) ?_
        refine lv_goto (tgt := 149) hx hb dX5_fits_145 (by decide) ?_
        exact W.zret (v := 1) hx hb hr (rfl) (fun t9 ht9 hW9 => ⟨1, rfl, Or.inl ⟨rfl, (pq_alw_n (κ := 16) (by omega)).mpr ⟨pq_f3.mpr hr188, Or.inl rfl, Or.inl rfl⟩⟩, ht9⟩) (fun q hq => by cases hq) dX5_fits_149
      · skip
        refine lv_if_eq (tgt := 148) hx hb dX5_fits_125 (by decide) (fun _ => ?_) (fun h192 => absurd (by decide) h192)
        refine lv_iconst (v := 0) hx hb dX5_fits_148 (by decide) ?_
        exact W.zret (v := 0) hx hb hr (rfl) (fun t9 ht9 hW9 => ⟨0, rfl, Or.inr ⟨rfl, fun z => hr188 (pq_f3.mp ((pq_alw_n (κ := 16) (by omega)).mp z).1)⟩, ht9⟩) (fun q hq => by cases hq) dX5_fits_149
    · skip
      refine lv_if_eq (tgt := 11) hx hb dX5_fits_6 (by decide) (fun _ => ?_) (fun h193 => absurd (by decide) h193)
      refine lv_iload_n hx hb dX5_fits_11 rfl (lv_at hl 1 rfl) ?_
      refine lv_if_ne (tgt := 29) hx hb dX5_fits_12 (by decide) (fun _ => ?_) (fun h194 => absurd h194 (by decide))
      refine lv_iload_n hx hb dX5_fits_29 rfl (lv_at hl 1 rfl) ?_
      refine lv_iconst (v := 1) hx hb dX5_fits_30 (by decide) ?_
      refine lv_icmp_ne (tgt := 49) hx hb dX5_fits_31 (by decide) (fun _ => ?_) (fun h195 => absurd h195 (by decide))
      refine lv_iload_n hx hb dX5_fits_49 rfl (lv_at hl 1 rfl) ?_
      refine lv_bipush (v := nI 9) hx hb dX5_fits_50 (by decide) ?_
      refine lv_icmp_ne (tgt := 86) hx hb dX5_fits_52 (by decide) (fun _ => ?_) (fun h196 => absurd h196 (by decide))
      refine lv_iload_n hx hb dX5_fits_86 rfl (lv_at hl 1 rfl) ?_
      refine lv_bipush (v := nI 17) hx hb dX5_fits_87 (by decide) ?_
      refine lv_icmp_lt (tgt := 120) hx hb dX5_fits_89 (by decide) (fun h197 => absurd h197 (by decide)) (fun _ => ?_)
      refine lv_aload_n hx hb dX5_fits_92 rfl (lv_at hl 0 rfl) ?_
      refine lv_iload_n hx hb dX5_fits_93 rfl (lv_at hl 2 rfl) ?_
      refine vp_callSi (W.runV (C := RX5) (b := ad 0) (As := [.int a0]) (rest := []) ⟨hx, hb, hml, hown, hts⟩ (ctX5_isTruth l dC dI cI ad aK aA aB aC aM aS aF aN th ck fo n mm lv hn fk hk hk2 a0) (cwV 1 hts (wA_wsV wm_ml_X5_82 wm_im_X5_isTruth wm_se_X5_isTruth wm_in_X5 wm_cd_X5_isTruth) rfl rfl rfl (by decide +kernel) ⟨Nat.le_of_ble_eq_true rfl, Nat.le_of_ble_eq_true rfl⟩) ⟨fun a U g mk q => by obtain ⟨q0, qP, qK⟩ := q; exact ⟨q0, qP, va_K.moved (u := U) (U := U.calling g mk a) (Vm.Alike.refl U.vm) qK⟩, va_recv (q := (RX5, TX5, 14)) (q0 := 0) hK hP rfl rfl, fun U hU hW => ⟨rfl, by rw [hU]; exact hP, va_K.moved hW.alike hK⟩⟩ rfl rfl hl.1 rfl (lv_room (Nat.le_of_ble_eq_true rfl)) dX5_fits_94 ⟨Nat.zero_le _, Nat.zero_le _⟩) (fun r198 er198 => ?_)
      rcases er198 with ⟨rfl, hr198⟩ | ⟨rfl, hr198⟩
      · skip
        refine lv_if_eq (tgt := 118) hx hb dX5_fits_97 (by decide) (fun h199 => absurd h199 (by decide)) (fun _ => ?_)
        refine lv_iload_n hx hb dX5_fits_100 rfl (lv_at hl 1 rfl) ?_
        refine lv_bipush (v := nI 17) hx hb dX5_fits_101 (by decide) ?_
        refine lv_icmp_eq (tgt := 114) hx hb dX5_fits_103 (by decide) (fun _ => ?_) (fun h200 => absurd (by decide) h200)
        refine lv_iconst (v := 1) hx hb dX5_fits_114 (by decide) ?_
        refine lv_goto (tgt := 119) hx hb dX5_fits_115 (by decide) ?_
        exact W.zret (v := 1) hx hb hr (rfl) (fun t9 ht9 hW9 => ⟨1, rfl, Or.inl ⟨rfl, (pq_alw_n (κ := 17) (by omega)).mpr ⟨pq_f4.mpr hr198, Or.inl rfl, Or.inl rfl⟩⟩, ht9⟩) (fun q hq => by cases hq) dX5_fits_119
      · skip
        refine lv_if_eq (tgt := 118) hx hb dX5_fits_97 (by decide) (fun _ => ?_) (fun h201 => absurd (by decide) h201)
        refine lv_iconst (v := 0) hx hb dX5_fits_118 (by decide) ?_
        exact W.zret (v := 0) hx hb hr (rfl) (fun t9 ht9 hW9 => ⟨0, rfl, Or.inr ⟨rfl, fun z => hr198 (pq_f4.mp ((pq_alw_n (κ := 17) (by omega)).mp z).1)⟩, ht9⟩) (fun q hq => by cases hq) dX5_fits_119
    · skip
      refine lv_if_eq (tgt := 11) hx hb dX5_fits_6 (by decide) (fun _ => ?_) (fun h202 => absurd (by decide) h202)
      refine lv_iload_n hx hb dX5_fits_11 rfl (lv_at hl 1 rfl) ?_
      refine lv_if_ne (tgt := 29) hx hb dX5_fits_12 (by decide) (fun _ => ?_) (fun h203 => absurd h203 (by decide))
      refine lv_iload_n hx hb dX5_fits_29 rfl (lv_at hl 1 rfl) ?_
      refine lv_iconst (v := 1) hx hb dX5_fits_30 (by decide) ?_
      refine lv_icmp_ne (tgt := 49) hx hb dX5_fits_31 (by decide) (fun _ => ?_) (fun h204 => absurd h204 (by decide))
      refine lv_iload_n hx hb dX5_fits_49 rfl (lv_at hl 1 rfl) ?_
      refine lv_bipush (v := nI 9) hx hb dX5_fits_50 (by decide) ?_
      refine lv_icmp_ne (tgt := 86) hx hb dX5_fits_52 (by decide) (fun _ => ?_) (fun h205 => absurd h205 (by decide))
      refine lv_iload_n hx hb dX5_fits_86 rfl (lv_at hl 1 rfl) ?_
      refine lv_bipush (v := nI 17) hx hb dX5_fits_87 (by decide) ?_
      refine lv_icmp_lt (tgt := 120) hx hb dX5_fits_89 (by decide) (fun h206 => absurd h206 (by decide)) (fun _ => ?_)
      refine lv_aload_n hx hb dX5_fits_92 rfl (lv_at hl 0 rfl) ?_
      refine lv_iload_n hx hb dX5_fits_93 rfl (lv_at hl 2 rfl) ?_
      refine vp_callSi (W.runV (C := RX5) (b := ad 0) (As := [.int a0]) (rest := []) ⟨hx, hb, hml, hown, hts⟩ (ctX5_isTruth l dC dI cI ad aK aA aB aC aM aS aF aN th ck fo n mm lv hn fk hk hk2 a0) (cwV 1 hts (wA_wsV wm_ml_X5_82 wm_im_X5_isTruth wm_se_X5_isTruth wm_in_X5 wm_cd_X5_isTruth) rfl rfl rfl (by decide +kernel) ⟨Nat.le_of_ble_eq_true rfl, Nat.le_of_ble_eq_true rfl⟩) ⟨fun a U g mk q => by obtain ⟨q0, qP, qK⟩ := q; exact ⟨q0, qP, va_K.moved (u := U) (U := U.calling g mk a) (Vm.Alike.refl U.vm) qK⟩, va_recv (q := (RX5, TX5, 14)) (q0 := 0) hK hP rfl rfl, fun U hU hW => ⟨rfl, by rw [hU]; exact hP, va_K.moved hW.alike hK⟩⟩ rfl rfl hl.1 rfl (lv_room (Nat.le_of_ble_eq_true rfl)) dX5_fits_94 ⟨Nat.zero_le _, Nat.zero_le _⟩) (fun r207 er207 => ?_)
      rcases er207 with ⟨rfl, hr207⟩ | ⟨rfl, hr207⟩
      · skip
        refine lv_if_eq (tgt := 118) hx hb dX5_fits_97 (by decide) (fun h208 => absurd h208 (by decide)) (fun _ => ?_)
        refine lv_iload_n hx hb dX5_fits_100 rfl (lv_at hl 1 rfl) ?_
        refine lv_bipush (v := nI 17) hx hb dX5_fits_101 (by decide) ?_
        refine lv_icmp_eq (tgt := 114) hx hb dX5_fits_103 (by decide) (fun h209 => absurd h209 (by decide)) (fun _ => ?_)
        refine lv_aload_n hx hb dX5_fits_106 rfl (lv_at hl 0 rfl) ?_
        refine lv_iload_n hx hb dX5_fits_107 rfl (lv_at hl 3 rfl) ?_
        refine vp_callSi (W.runV (C := RX5) (b := ad 0) (As := [.int b0]) (rest := []) ⟨hx, hb, hml, hown, hts⟩ (ctX5_isTruth l dC dI cI ad aK aA aB aC aM aS aF aN th ck fo n mm lv hn fk hk hk2 b0) (cwV 1 hts (wA_wsV wm_ml_X5_82 wm_im_X5_isTruth wm_se_X5_isTruth wm_in_X5 wm_cd_X5_isTruth) rfl rfl rfl (by decide +kernel) ⟨Nat.le_of_ble_eq_true rfl, Nat.le_of_ble_eq_true rfl⟩) ⟨fun a U g mk q => by obtain ⟨q0, qP, qK⟩ := q; exact ⟨q0, qP, va_K.moved (u := U) (U := U.calling g mk a) (Vm.Alike.refl U.vm) qK⟩, va_recv (q := (RX5, TX5, 14)) (q0 := 0) hK hP rfl rfl, fun U hU hW => ⟨rfl, by rw [hU]; exact hP, va_K.moved hW.alike hK⟩⟩ rfl rfl hl.1 rfl (lv_room (Nat.le_of_ble_eq_true rfl)) dX5_fits_108 ⟨Nat.zero_le _, Nat.zero_le _⟩) (fun r210 er210 => ?_)
        rcases er210 with ⟨rfl, hr210⟩ | ⟨rfl, hr210⟩
        · skip
          refine lv_if_eq (tgt := 118) hx hb dX5_fits_111 (by decide) (fun h211 => absurd h211 (by decide)) (fun _ => ?_)
          refine lv_iconst (v := 1) hx hb dX5_fits_114 (by decide) ?_
          refine lv_goto (tgt := 119) hx hb dX5_fits_115 (by decide) ?_
          exact W.zret (v := 1) hx hb hr (rfl) (fun t9 ht9 hW9 => ⟨1, rfl, Or.inl ⟨rfl, (pq_alw_n (κ := 18) (by omega)).mpr ⟨pq_f4.mpr hr207, pq_f4.mpr hr210, Or.inl rfl⟩⟩, ht9⟩) (fun q hq => by cases hq) dX5_fits_119
        · skip
          refine lv_if_eq (tgt := 118) hx hb dX5_fits_111 (by decide) (fun _ => ?_) (fun h212 => absurd (by decide) h212)
          refine lv_iconst (v := 0) hx hb dX5_fits_118 (by decide) ?_
          exact W.zret (v := 0) hx hb hr (rfl) (fun t9 ht9 hW9 => ⟨0, rfl, Or.inr ⟨rfl, fun z => hr210 (pq_f4.mp ((pq_alw_n (κ := 18) (by omega)).mp z).2.1)⟩, ht9⟩) (fun q hq => by cases hq) dX5_fits_119
      · skip
        refine lv_if_eq (tgt := 118) hx hb dX5_fits_97 (by decide) (fun _ => ?_) (fun h213 => absurd (by decide) h213)
        refine lv_iconst (v := 0) hx hb dX5_fits_118 (by decide) ?_
        exact W.zret (v := 0) hx hb hr (rfl) (fun t9 ht9 hW9 => ⟨0, rfl, Or.inr ⟨rfl, fun z => hr207 (pq_f4.mp ((pq_alw_n (κ := 18) (by omega)).mp z).1)⟩, ht9⟩) (fun q hq => by cases hq) dX5_fits_119
    · skip
      refine lv_if_eq (tgt := 11) hx hb dX5_fits_6 (by decide) (fun _ => ?_) (fun h214 => absurd (by decide) h214)
      refine lv_iload_n hx hb dX5_fits_11 rfl (lv_at hl 1 rfl) ?_
      refine lv_if_ne (tgt := 29) hx hb dX5_fits_12 (by decide) (fun _ => ?_) (fun h215 => absurd h215 (by decide))
      refine lv_iload_n hx hb dX5_fits_29 rfl (lv_at hl 1 rfl) ?_
      refine lv_iconst (v := 1) hx hb dX5_fits_30 (by decide) ?_
      refine lv_icmp_ne (tgt := 49) hx hb dX5_fits_31 (by decide) (fun _ => ?_) (fun h216 => absurd h216 (by decide))
      refine lv_iload_n hx hb dX5_fits_49 rfl (lv_at hl 1 rfl) ?_
      refine lv_bipush (v := nI 9) hx hb dX5_fits_50 (by decide) ?_
      refine lv_icmp_ne (tgt := 86) hx hb dX5_fits_52 (by decide) (fun _ => ?_) (fun h217 => absurd h217 (by decide))
      refine lv_iload_n hx hb dX5_fits_86 rfl (lv_at hl 1 rfl) ?_
      refine lv_bipush (v := nI 17) hx hb dX5_fits_87 (by decide) ?_
      refine lv_icmp_lt (tgt := 120) hx hb dX5_fits_89 (by decide) (fun h218 => absurd h218 (by decide)) (fun _ => ?_)
      refine lv_aload_n hx hb dX5_fits_92 rfl (lv_at hl 0 rfl) ?_
      refine lv_iload_n hx hb dX5_fits_93 rfl (lv_at hl 2 rfl) ?_
      refine vp_callSi (W.runV (C := RX5) (b := ad 0) (As := [.int a0]) (rest := []) ⟨hx, hb, hml, hown, hts⟩ (ctX5_isTruth l dC dI cI ad aK aA aB aC aM aS aF aN th ck fo n mm lv hn fk hk hk2 a0) (cwV 1 hts (wA_wsV wm_ml_X5_82 wm_im_X5_isTruth wm_se_X5_isTruth wm_in_X5 wm_cd_X5_isTruth) rfl rfl rfl (by decide +kernel) ⟨Nat.le_of_ble_eq_true rfl, Nat.le_of_ble_eq_true rfl⟩) ⟨fun a U g mk q => by obtain ⟨q0, qP, qK⟩ := q; exact ⟨q0, qP, va_K.moved (u := U) (U := U.calling g mk a) (Vm.Alike.refl U.vm) qK⟩, va_recv (q := (RX5, TX5, 14)) (q0 := 0) hK hP rfl rfl, fun U hU hW => ⟨rfl, by rw [hU]; exact hP, va_K.moved hW.alike hK⟩⟩ rfl rfl hl.1 rfl (lv_room (Nat.le_of_ble_eq_true rfl)) dX5_fits_94 ⟨Nat.zero_le _, Nat.zero_le _⟩) (fun r219 er219 => ?_)
      rcases er219 with ⟨rfl, hr219⟩ | ⟨rfl, hr219⟩
      · skip
        refine lv_if_eq (tgt := 118) hx hb dX5_fits_97 (by decide) (fun h220 => absurd h220 (by decide)) (fun _ => ?_)
        refine lv_iload_n hx hb dX5_fits_100 rfl (lv_at hl 1 rfl) ?_
        refine lv_bipush (v := nI 17) hx hb dX5_fits_101 (by decide) ?_
        refine lv_icmp_eq (tgt := 114) hx hb dX5_fits_103 (by decide) (fun h221 => absurd h221 (by decide)) (fun _ => ?_)
        refine lv_aload_n hx hb dX5_fits_106 rfl (lv_at hl 0 rfl) ?_
        refine lv_iload_n hx hb dX5_fits_107 rfl (lv_at hl 3 rfl) ?_
        refine vp_callSi (W.runV (C := RX5) (b := ad 0) (As := [.int b0]) (rest := []) ⟨hx, hb, hml, hown, hts⟩ (ctX5_isTruth l dC dI cI ad aK aA aB aC aM aS aF aN th ck fo n mm lv hn fk hk hk2 b0) (cwV 1 hts (wA_wsV wm_ml_X5_82 wm_im_X5_isTruth wm_se_X5_isTruth wm_in_X5 wm_cd_X5_isTruth) rfl rfl rfl (by decide +kernel) ⟨Nat.le_of_ble_eq_true rfl, Nat.le_of_ble_eq_true rfl⟩) ⟨fun a U g mk q => by obtain ⟨q0, qP, qK⟩ := q; exact ⟨q0, qP, va_K.moved (u := U) (U := U.calling g mk a) (Vm.Alike.refl U.vm) qK⟩, va_recv (q := (RX5, TX5, 14)) (q0 := 0) hK hP rfl rfl, fun U hU hW => ⟨rfl, by rw [hU]; exact hP, va_K.moved hW.alike hK⟩⟩ rfl rfl hl.1 rfl (lv_room (Nat.le_of_ble_eq_true rfl)) dX5_fits_108 ⟨Nat.zero_le _, Nat.zero_le _⟩) (fun r222 er222 => ?_)
        rcases er222 with ⟨rfl, hr222⟩ | ⟨rfl, hr222⟩
        · skip
          refine lv_if_eq (tgt := 118) hx hb dX5_fits_111 (by decide) (fun h223 => absurd h223 (by decide)) (fun _ => ?_)
          refine lv_iconst (v := 1) hx hb dX5_fits_114 (by decide) ?_
          refine lv_goto (tgt := 119) hx hb dX5_fits_115 (by decide) ?_
          exact W.zret (v := 1) hx hb hr (rfl) (fun t9 ht9 hW9 => ⟨1, rfl, Or.inl ⟨rfl, (pq_alw_n (κ := 19) (by omega)).mpr ⟨pq_f4.mpr hr219, pq_f4.mpr hr222, Or.inl rfl⟩⟩, ht9⟩) (fun q hq => by cases hq) dX5_fits_119
        · skip
          refine lv_if_eq (tgt := 118) hx hb dX5_fits_111 (by decide) (fun _ => ?_) (fun h224 => absurd (by decide) h224)
          refine lv_iconst (v := 0) hx hb dX5_fits_118 (by decide) ?_
          exact W.zret (v := 0) hx hb hr (rfl) (fun t9 ht9 hW9 => ⟨0, rfl, Or.inr ⟨rfl, fun z => hr222 (pq_f4.mp ((pq_alw_n (κ := 19) (by omega)).mp z).2.1)⟩, ht9⟩) (fun q hq => by cases hq) dX5_fits_119
      · skip
        refine lv_if_eq (tgt := 118) hx hb dX5_fits_97 (by decide) (fun _ => ?_) (fun h225 => absurd (by decide) h225)
        refine lv_iconst (v := 0) hx hb dX5_fits_118 (by decide) ?_
        exact W.zret (v := 0) hx hb hr (rfl) (fun t9 ht9 hW9 => ⟨0, rfl, Or.inr ⟨rfl, fun z => hr219 (pq_f4.mp ((pq_alw_n (κ := 19) (by omega)).mp z).1)⟩, ht9⟩) (fun q hq => by cases hq) dX5_fits_119
  · have er1 := er1.trans (pm_out_no (n := 20) (by omega) h20)
    subst er1
    refine lv_if_eq (tgt := 11) hx hb dX5_fits_6 (by decide) (fun h226 => absurd h226 (by decide)) (fun _ => ?_)
    refine lv_iconst (v := 0) hx hb dX5_fits_9 (by decide) ?_
    exact W.zret (v := 0) hx hb hr (rfl) (fun t9 ht9 hW9 => ⟨0, rfl, Or.inr ⟨rfl, fun ⟨κ, h1, h2, _⟩ => h20 ⟨κ, h1, h2⟩⟩, ht9⟩) (fun q hq => by cases hq) dX5_fits_10
set_option maxHeartbeats 4000000 in
set_option maxRecDepth 100000 in
theorem ctX5_terms (sz : Nat) : Met l yX5_terms wsX5_terms ({ frames := 0, cells := 0, slots := 0, locals := 0 }) (va_Pc [.ref (ad 0)] (fun U => U.heap.size = sz ∧ va_P (dC, dI) vwCl (wM cI ad aK aA aB aC aM aS aF aN th ck fo n mm lv) U.heap ∧ va_K (dC, dI) vwCl [(cI, .int)] U ∧ va_D (fun _ => True) (wM cI ad aK aA aB aC aM aS aF aN th ck fo n mm lv))) (va_Qi (fun r _ => r = nI n) (fun (u : Unit) t9 => va_P (dC, dI) vwCl (wM cI ad aK aA aB aC aM aS aF aN 0 ck fo n mm lv) t9.heap ∧ va_K (dC, dI) vwCl [(cI, .int)] t9 ∧ va_D (va_A (wM cI ad aK aA aB aC aM aS aF aN th ck fo n mm lv) sz) (wM cI ad aK aA aB aC aM aS aF aN 0 ck fo n mm lv)) (va_A (wM cI ad aK aA aB aC aM aS aF aN th ck fo n mm lv) sz)) 0 0 (va_A (wM cI ad aK aA aB aC aM aS aF aN th ck fo n mm lv) sz) := by
  refine Met.ofW (cc := cX5_terms) (maxL := 1) (ret := (some .int)) (by decide) rfl ?_
  intro p e s m args below meth c s₁ B hml hv
  obtain ⟨rfl, hsz, hP, hK, hD0⟩ := hv
  subst hsz
  have hx := B.exec
  have hb := B.bytes
  have hr := B.returns
  have hts := atoms_spec (ws := wsX5_terms) B.pre
  have hown : s.vm.findClass RX5 = some m.cls := findClass_of_methodNamed B.named
  have hlocks := B.notSynchronized
  have hl := lv_entry ([.ref (ad 0)]) (n := 1) (Nat.le_of_ble_eq_true rfl)
  rw [lg_entry_eq]
  generalize (lg_sl ([.ref (ad 0)]) ++ List.replicate (1 - (lg_sl ([.ref (ad 0)])).length) Slot.unset).toArray = ls at hl ⊢
  have hl : lv_has ls 1 [(0, .ref (ad 0))] := hl
  have hD := hD0.self (sz := s.heap.size)
  generalize hAe : va_A (wM cI ad aK aA aB aC aM aS aF aN th ck fo n mm lv) s.heap.size = A9 at hD ⊢
  have hA : ∀ q : Nat, s.heap.size ≤ q → A9 q := fun q h => by rw [← hAe]; exact Or.inr h
  have hS : va_S A9 s.heap s.heap [] := va_S.rf
  refine lv_aload_n hx hb dX5_terms_0 rfl (lv_at hl 0 rfl) ?_
  refine lv_iconst (v := 0) hx hb dX5_terms_1 (by decide) ?_
  refine va_put (D := (dC, dI)) (ci := 3) (v := .int 0) (ty := .int) (C := RX5) (T := TX5) (N := 14) hx hb hts (fun w h => List.mem_cons_of_mem _ (wf_X5 w h)) tyX5 tyX5_ok nmX5 hown hK hP hD hS 0 rfl rfl 0 (by decide) (hts _ (List.mem_cons_of_mem _ wm_fl_X5_34)) (fun _ h9 => h9) rfl (by decide +kernel) rfl rfl (Nat.le_of_ble_eq_true rfl) dX5_terms_2 (fun H locs hP hD hS => ?_)
  have hP : va_P (dC, dI) vwCl [(ad 0, .inr (3, [.int 0, .int (nI n), .ref (ad 1), .ref (ad 2), .ref (ad 3), .ref (ad 4), .int (nI mm), .ref (ad 5), .int (nI lv), .ref (ad 6), .int ck, .int fo, .ref (ad 7), .ref (ad 8)])), (ad 1, .inl (cI, 12, .inl aK)), (ad 2, .inl (cI, 12, .inl aA)), (ad 3, .inl (cI, 12, .inl aB)), (ad 4, .inl (cI, 12, .inl aC)), (ad 5, .inl (cI, 20, .inl aM)), (ad 6, .inl (cI, 6, .inl aS)), (ad 7, .inl (cI, 2, .inl aF)), (ad 8, .inl (cI, 12, .inl aN))] H := hP
  have hD : va_D A9 [(ad 0, .inr (3, [.int 0, .int (nI n), .ref (ad 1), .ref (ad 2), .ref (ad 3), .ref (ad 4), .int (nI mm), .ref (ad 5), .int (nI lv), .ref (ad 6), .int ck, .int fo, .ref (ad 7), .ref (ad 8)])), (ad 1, .inl (cI, 12, .inl aK)), (ad 2, .inl (cI, 12, .inl aA)), (ad 3, .inl (cI, 12, .inl aB)), (ad 4, .inl (cI, 12, .inl aC)), (ad 5, .inl (cI, 20, .inl aM)), (ad 6, .inl (cI, 6, .inl aS)), (ad 7, .inl (cI, 2, .inl aF)), (ad 8, .inl (cI, 12, .inl aN))] := hD
  refine lv_aload_n hx hb dX5_terms_5 rfl (lv_at hl 0 rfl) ?_
  refine va_get (D := (dC, dI)) (ci := 3) (v := .int (nI n)) (C := RX5) (T := TX5) (N := 14) hx hb hts (fun w h => List.mem_cons_of_mem _ (wf_X5 w h)) hown hK hP 0 rfl rfl 1 (by decide) (hts _ (List.mem_cons_of_mem _ wm_fl_X5_76)) (fun _ h9 => h9) rfl dX5_terms_6 ?_
  exact W.iret (v := nI n) hx hb hr (fun t9 ht9 hW9 => ⟨⟨nI n, (), rfl, rfl, by rw [ht9]; exact hP, va_K.moved hW9.alike hK, hD⟩, hS.F ht9⟩) hS.2.2 dX5_terms_9
set_option maxHeartbeats 4000000 in
set_option maxRecDepth 100000 in
theorem ctX5_claims (sz : Nat) : Met l yX5_claims wsX5_claims ({ frames := 0, cells := 0, slots := 0, locals := 0 }) (va_Pc [.ref (ad 0)] (fun U => U.heap.size = sz ∧ va_P (dC, dI) vwCl (wM cI ad aK aA aB aC aM aS aF aN th ck fo n mm lv) U.heap ∧ va_K (dC, dI) vwCl [(cI, .int)] U ∧ va_D (fun _ => True) (wM cI ad aK aA aB aC aM aS aF aN th ck fo n mm lv))) (va_Qi (fun r _ => r = nI mm) (fun (u : Unit) t9 => va_P (dC, dI) vwCl (wM cI ad aK aA aB aC aM aS aF aN 0 ck fo n mm lv) t9.heap ∧ va_K (dC, dI) vwCl [(cI, .int)] t9 ∧ va_D (va_A (wM cI ad aK aA aB aC aM aS aF aN th ck fo n mm lv) sz) (wM cI ad aK aA aB aC aM aS aF aN 0 ck fo n mm lv)) (va_A (wM cI ad aK aA aB aC aM aS aF aN th ck fo n mm lv) sz)) 0 0 (va_A (wM cI ad aK aA aB aC aM aS aF aN th ck fo n mm lv) sz) := by
  refine Met.ofW (cc := cX5_claims) (maxL := 1) (ret := (some .int)) (by decide) rfl ?_
  intro p e s m args below meth c s₁ B hml hv
  obtain ⟨rfl, hsz, hP, hK, hD0⟩ := hv
  subst hsz
  have hx := B.exec
  have hb := B.bytes
  have hr := B.returns
  have hts := atoms_spec (ws := wsX5_claims) B.pre
  have hown : s.vm.findClass RX5 = some m.cls := findClass_of_methodNamed B.named
  have hlocks := B.notSynchronized
  have hl := lv_entry ([.ref (ad 0)]) (n := 1) (Nat.le_of_ble_eq_true rfl)
  rw [lg_entry_eq]
  generalize (lg_sl ([.ref (ad 0)]) ++ List.replicate (1 - (lg_sl ([.ref (ad 0)])).length) Slot.unset).toArray = ls at hl ⊢
  have hl : lv_has ls 1 [(0, .ref (ad 0))] := hl
  have hD := hD0.self (sz := s.heap.size)
  generalize hAe : va_A (wM cI ad aK aA aB aC aM aS aF aN th ck fo n mm lv) s.heap.size = A9 at hD ⊢
  have hA : ∀ q : Nat, s.heap.size ≤ q → A9 q := fun q h => by rw [← hAe]; exact Or.inr h
  have hS : va_S A9 s.heap s.heap [] := va_S.rf
  refine lv_aload_n hx hb dX5_claims_0 rfl (lv_at hl 0 rfl) ?_
  refine lv_iconst (v := 0) hx hb dX5_claims_1 (by decide) ?_
  refine va_put (D := (dC, dI)) (ci := 3) (v := .int 0) (ty := .int) (C := RX5) (T := TX5) (N := 14) hx hb hts (fun w h => List.mem_cons_of_mem _ (wf_X5 w h)) tyX5 tyX5_ok nmX5 hown hK hP hD hS 0 rfl rfl 0 (by decide) (hts _ (List.mem_cons_of_mem _ wm_fl_X5_34)) (fun _ h9 => h9) rfl (by decide +kernel) rfl rfl (Nat.le_of_ble_eq_true rfl) dX5_claims_2 (fun H locs hP hD hS => ?_)
  have hP : va_P (dC, dI) vwCl [(ad 0, .inr (3, [.int 0, .int (nI n), .ref (ad 1), .ref (ad 2), .ref (ad 3), .ref (ad 4), .int (nI mm), .ref (ad 5), .int (nI lv), .ref (ad 6), .int ck, .int fo, .ref (ad 7), .ref (ad 8)])), (ad 1, .inl (cI, 12, .inl aK)), (ad 2, .inl (cI, 12, .inl aA)), (ad 3, .inl (cI, 12, .inl aB)), (ad 4, .inl (cI, 12, .inl aC)), (ad 5, .inl (cI, 20, .inl aM)), (ad 6, .inl (cI, 6, .inl aS)), (ad 7, .inl (cI, 2, .inl aF)), (ad 8, .inl (cI, 12, .inl aN))] H := hP
  have hD : va_D A9 [(ad 0, .inr (3, [.int 0, .int (nI n), .ref (ad 1), .ref (ad 2), .ref (ad 3), .ref (ad 4), .int (nI mm), .ref (ad 5), .int (nI lv), .ref (ad 6), .int ck, .int fo, .ref (ad 7), .ref (ad 8)])), (ad 1, .inl (cI, 12, .inl aK)), (ad 2, .inl (cI, 12, .inl aA)), (ad 3, .inl (cI, 12, .inl aB)), (ad 4, .inl (cI, 12, .inl aC)), (ad 5, .inl (cI, 20, .inl aM)), (ad 6, .inl (cI, 6, .inl aS)), (ad 7, .inl (cI, 2, .inl aF)), (ad 8, .inl (cI, 12, .inl aN))] := hD
  refine lv_aload_n hx hb dX5_claims_5 rfl (lv_at hl 0 rfl) ?_
  refine va_get (D := (dC, dI)) (ci := 3) (v := .int (nI mm)) (C := RX5) (T := TX5) (N := 14) hx hb hts (fun w h => List.mem_cons_of_mem _ (wf_X5 w h)) hown hK hP 0 rfl rfl 6 (by decide) (hts _ (List.mem_cons_of_mem _ wm_fl_X5_99)) (fun _ h9 => h9) rfl dX5_claims_6 ?_
  exact W.iret (v := nI mm) hx hb hr (fun t9 ht9 hW9 => ⟨⟨nI mm, (), rfl, rfl, by rw [ht9]; exact hP, va_K.moved hW9.alike hK, hD⟩, hS.F ht9⟩) hS.2.2 dX5_claims_9
set_option maxHeartbeats 4000000 in
set_option maxRecDepth 100000 in
theorem ctX5_level (sz : Nat) : Met l yX5_level wsX5_level ({ frames := 0, cells := 0, slots := 0, locals := 0 }) (va_Pc [.ref (ad 0)] (fun U => U.heap.size = sz ∧ va_P (dC, dI) vwCl (wM cI ad aK aA aB aC aM aS aF aN th ck fo n mm lv) U.heap ∧ va_K (dC, dI) vwCl [(cI, .int)] U ∧ va_D (fun _ => True) (wM cI ad aK aA aB aC aM aS aF aN th ck fo n mm lv))) (va_Qi (fun r _ => r = nI lv) (fun (u : Unit) t9 => va_P (dC, dI) vwCl (wM cI ad aK aA aB aC aM aS aF aN 0 ck fo n mm lv) t9.heap ∧ va_K (dC, dI) vwCl [(cI, .int)] t9 ∧ va_D (va_A (wM cI ad aK aA aB aC aM aS aF aN th ck fo n mm lv) sz) (wM cI ad aK aA aB aC aM aS aF aN 0 ck fo n mm lv)) (va_A (wM cI ad aK aA aB aC aM aS aF aN th ck fo n mm lv) sz)) 0 0 (va_A (wM cI ad aK aA aB aC aM aS aF aN th ck fo n mm lv) sz) := by
  refine Met.ofW (cc := cX5_level) (maxL := 1) (ret := (some .int)) (by decide) rfl ?_
  intro p e s m args below meth c s₁ B hml hv
  obtain ⟨rfl, hsz, hP, hK, hD0⟩ := hv
  subst hsz
  have hx := B.exec
  have hb := B.bytes
  have hr := B.returns
  have hts := atoms_spec (ws := wsX5_level) B.pre
  have hown : s.vm.findClass RX5 = some m.cls := findClass_of_methodNamed B.named
  have hlocks := B.notSynchronized
  have hl := lv_entry ([.ref (ad 0)]) (n := 1) (Nat.le_of_ble_eq_true rfl)
  rw [lg_entry_eq]
  generalize (lg_sl ([.ref (ad 0)]) ++ List.replicate (1 - (lg_sl ([.ref (ad 0)])).length) Slot.unset).toArray = ls at hl ⊢
  have hl : lv_has ls 1 [(0, .ref (ad 0))] := hl
  have hD := hD0.self (sz := s.heap.size)
  generalize hAe : va_A (wM cI ad aK aA aB aC aM aS aF aN th ck fo n mm lv) s.heap.size = A9 at hD ⊢
  have hA : ∀ q : Nat, s.heap.size ≤ q → A9 q := fun q h => by rw [← hAe]; exact Or.inr h
  have hS : va_S A9 s.heap s.heap [] := va_S.rf
  refine lv_aload_n hx hb dX5_level_0 rfl (lv_at hl 0 rfl) ?_
  refine lv_iconst (v := 0) hx hb dX5_level_1 (by decide) ?_
  refine va_put (D := (dC, dI)) (ci := 3) (v := .int 0) (ty := .int) (C := RX5) (T := TX5) (N := 14) hx hb hts (fun w h => List.mem_cons_of_mem _ (wf_X5 w h)) tyX5 tyX5_ok nmX5 hown hK hP hD hS 0 rfl rfl 0 (by decide) (hts _ (List.mem_cons_of_mem _ wm_fl_X5_34)) (fun _ h9 => h9) rfl (by decide +kernel) rfl rfl (Nat.le_of_ble_eq_true rfl) dX5_level_2 (fun H locs hP hD hS => ?_)
  have hP : va_P (dC, dI) vwCl [(ad 0, .inr (3, [.int 0, .int (nI n), .ref (ad 1), .ref (ad 2), .ref (ad 3), .ref (ad 4), .int (nI mm), .ref (ad 5), .int (nI lv), .ref (ad 6), .int ck, .int fo, .ref (ad 7), .ref (ad 8)])), (ad 1, .inl (cI, 12, .inl aK)), (ad 2, .inl (cI, 12, .inl aA)), (ad 3, .inl (cI, 12, .inl aB)), (ad 4, .inl (cI, 12, .inl aC)), (ad 5, .inl (cI, 20, .inl aM)), (ad 6, .inl (cI, 6, .inl aS)), (ad 7, .inl (cI, 2, .inl aF)), (ad 8, .inl (cI, 12, .inl aN))] H := hP
  have hD : va_D A9 [(ad 0, .inr (3, [.int 0, .int (nI n), .ref (ad 1), .ref (ad 2), .ref (ad 3), .ref (ad 4), .int (nI mm), .ref (ad 5), .int (nI lv), .ref (ad 6), .int ck, .int fo, .ref (ad 7), .ref (ad 8)])), (ad 1, .inl (cI, 12, .inl aK)), (ad 2, .inl (cI, 12, .inl aA)), (ad 3, .inl (cI, 12, .inl aB)), (ad 4, .inl (cI, 12, .inl aC)), (ad 5, .inl (cI, 20, .inl aM)), (ad 6, .inl (cI, 6, .inl aS)), (ad 7, .inl (cI, 2, .inl aF)), (ad 8, .inl (cI, 12, .inl aN))] := hD
  refine lv_aload_n hx hb dX5_level_5 rfl (lv_at hl 0 rfl) ?_
  refine va_get (D := (dC, dI)) (ci := 3) (v := .int (nI lv)) (C := RX5) (T := TX5) (N := 14) hx hb hts (fun w h => List.mem_cons_of_mem _ (wf_X5 w h)) hown hK hP 0 rfl rfl 8 (by decide) (hts _ (List.mem_cons_of_mem _ wm_fl_X5_102)) (fun _ h9 => h9) rfl dX5_level_6 ?_
  exact W.iret (v := nI lv) hx hb hr (fun t9 ht9 hW9 => ⟨⟨nI lv, (), rfl, rfl, by rw [ht9]; exact hP, va_K.moved hW9.alike hK, hD⟩, hS.F ht9⟩) hS.2.2 dX5_level_9
set_option maxHeartbeats 4000000 in
set_option maxRecDepth 100000 in
theorem ctX5_checks (sz : Nat) : Met l yX5_checks wsX5_checks ({ frames := 0, cells := 0, slots := 0, locals := 0 }) (va_Pc [.ref (ad 0)] (fun U => U.heap.size = sz ∧ va_P (dC, dI) vwCl (wM cI ad aK aA aB aC aM aS aF aN th ck fo n mm lv) U.heap ∧ va_K (dC, dI) vwCl [(cI, .int)] U ∧ va_D (fun _ => True) (wM cI ad aK aA aB aC aM aS aF aN th ck fo n mm lv))) (va_Qi (fun r _ => r = ck) (fun (u : Unit) t9 => va_P (dC, dI) vwCl (wM cI ad aK aA aB aC aM aS aF aN 0 ck fo n mm lv) t9.heap ∧ va_K (dC, dI) vwCl [(cI, .int)] t9 ∧ va_D (va_A (wM cI ad aK aA aB aC aM aS aF aN th ck fo n mm lv) sz) (wM cI ad aK aA aB aC aM aS aF aN 0 ck fo n mm lv)) (va_A (wM cI ad aK aA aB aC aM aS aF aN th ck fo n mm lv) sz)) 0 0 (va_A (wM cI ad aK aA aB aC aM aS aF aN th ck fo n mm lv) sz) := by
  refine Met.ofW (cc := cX5_checks) (maxL := 1) (ret := (some .int)) (by decide) rfl ?_
  intro p e s m args below meth c s₁ B hml hv
  obtain ⟨rfl, hsz, hP, hK, hD0⟩ := hv
  subst hsz
  have hx := B.exec
  have hb := B.bytes
  have hr := B.returns
  have hts := atoms_spec (ws := wsX5_checks) B.pre
  have hown : s.vm.findClass RX5 = some m.cls := findClass_of_methodNamed B.named
  have hlocks := B.notSynchronized
  have hl := lv_entry ([.ref (ad 0)]) (n := 1) (Nat.le_of_ble_eq_true rfl)
  rw [lg_entry_eq]
  generalize (lg_sl ([.ref (ad 0)]) ++ List.replicate (1 - (lg_sl ([.ref (ad 0)])).length) Slot.unset).toArray = ls at hl ⊢
  have hl : lv_has ls 1 [(0, .ref (ad 0))] := hl
  have hD := hD0.self (sz := s.heap.size)
  generalize hAe : va_A (wM cI ad aK aA aB aC aM aS aF aN th ck fo n mm lv) s.heap.size = A9 at hD ⊢
  have hA : ∀ q : Nat, s.heap.size ≤ q → A9 q := fun q h => by rw [← hAe]; exact Or.inr h
  have hS : va_S A9 s.heap s.heap [] := va_S.rf
  refine lv_aload_n hx hb dX5_checks_0 rfl (lv_at hl 0 rfl) ?_
  refine lv_iconst (v := 0) hx hb dX5_checks_1 (by decide) ?_
  refine va_put (D := (dC, dI)) (ci := 3) (v := .int 0) (ty := .int) (C := RX5) (T := TX5) (N := 14) hx hb hts (fun w h => List.mem_cons_of_mem _ (wf_X5 w h)) tyX5 tyX5_ok nmX5 hown hK hP hD hS 0 rfl rfl 0 (by decide) (hts _ (List.mem_cons_of_mem _ wm_fl_X5_34)) (fun _ h9 => h9) rfl (by decide +kernel) rfl rfl (Nat.le_of_ble_eq_true rfl) dX5_checks_2 (fun H locs hP hD hS => ?_)
  have hP : va_P (dC, dI) vwCl [(ad 0, .inr (3, [.int 0, .int (nI n), .ref (ad 1), .ref (ad 2), .ref (ad 3), .ref (ad 4), .int (nI mm), .ref (ad 5), .int (nI lv), .ref (ad 6), .int ck, .int fo, .ref (ad 7), .ref (ad 8)])), (ad 1, .inl (cI, 12, .inl aK)), (ad 2, .inl (cI, 12, .inl aA)), (ad 3, .inl (cI, 12, .inl aB)), (ad 4, .inl (cI, 12, .inl aC)), (ad 5, .inl (cI, 20, .inl aM)), (ad 6, .inl (cI, 6, .inl aS)), (ad 7, .inl (cI, 2, .inl aF)), (ad 8, .inl (cI, 12, .inl aN))] H := hP
  have hD : va_D A9 [(ad 0, .inr (3, [.int 0, .int (nI n), .ref (ad 1), .ref (ad 2), .ref (ad 3), .ref (ad 4), .int (nI mm), .ref (ad 5), .int (nI lv), .ref (ad 6), .int ck, .int fo, .ref (ad 7), .ref (ad 8)])), (ad 1, .inl (cI, 12, .inl aK)), (ad 2, .inl (cI, 12, .inl aA)), (ad 3, .inl (cI, 12, .inl aB)), (ad 4, .inl (cI, 12, .inl aC)), (ad 5, .inl (cI, 20, .inl aM)), (ad 6, .inl (cI, 6, .inl aS)), (ad 7, .inl (cI, 2, .inl aF)), (ad 8, .inl (cI, 12, .inl aN))] := hD
  refine lv_aload_n hx hb dX5_checks_5 rfl (lv_at hl 0 rfl) ?_
  refine va_get (D := (dC, dI)) (ci := 3) (v := .int ck) (C := RX5) (T := TX5) (N := 14) hx hb hts (fun w h => List.mem_cons_of_mem _ (wf_X5 w h)) hown hK hP 0 rfl rfl 10 (by decide) (hts _ (List.mem_cons_of_mem _ wm_fl_X5_105)) (fun _ h9 => h9) rfl dX5_checks_6 ?_
  exact W.iret (v := ck) hx hb hr (fun t9 ht9 hW9 => ⟨⟨ck, (), rfl, rfl, by rw [ht9]; exact hP, va_K.moved hW9.alike hK, hD⟩, hS.F ht9⟩) hS.2.2 dX5_checks_9
end MD1
