/-! rows on arrays of ints, at places that are numbers -/
section XRA
variable {p : Program} {l : Launch} {e : Env} {R : Room} {s : State} {m : MethodId} {args : Array Value} {below : List Frame} {meth : Method} {c : Code} {H : Heap} {locs : List Loc} {cells slots : Nat} {Q : State → Prop}
variable {cc : ByteArray} {pc : Nat} {ls : Array Slot} {rest : List Value} {D : va_G} {cl : List vw_C} {A : Nat → Prop} {a : Nat} {tys : List (ClassId × FieldType)} {ws : va_W} {H0 : Heap}
theorem xr_iald (hexec : p.tables.exec = Jvm.exec) (hb : c.code = cc) (hK : va_K D cl tys s) (hP : va_P D cl ws H) (q0 t0 : Nat) {cA : ClassId} {n : Nat} {f : Nat → Int32} (ha : ws[q0]? = some (a, .inl (cA, n, .inl f))) (ht : tys[t0]? = some (cA, .int)) {t : Nat} (hlt : t < n) (hn : n < 2 ^ 31) {v : Int32} (hv : f t = v) (hdg : decode cc pc = .ok (.iaload, 1))
    (kk : W p l e R s m args below meth c H locs cells slots Q (F0 m (pc + 1) ls (.int v :: rest))) : W p l e R s m args below meth c H locs cells slots Q (F0 m pc ls (.int (nI t) :: .ref a :: rest)) := by
  refine va_iald hexec hb hK hP q0 t0 ha ht (vp_in_nI hlt hn) hdg ?_
  rw [nI_clamp (Nat.lt_trans hlt hn), hv]
  exact kk
theorem xr_iast (hexec : p.tables.exec = Jvm.exec) (hb : c.code = cc) (hK : va_K D cl tys s) (hP : va_P D cl ws H) (hD : va_D A ws) (hS : va_S A H0 H locs) (q0 t0 : Nat) {cA : ClassId} {n : Nat} {f : Nat → Int32} (ha : ws[q0]? = some (a, .inl (cA, n, .inl f))) (ht : tys[t0]? = some (cA, .int)) {t : Nat} (hlt : t < n) (hn : n < 2 ^ 31) {x : Int32} (hdg : decode cc pc = .ok (.iastore, 1))
    (kk : ∀ (H1 : Heap) (locs1 : List Loc), va_P D cl (ws.set q0 (a, .inl (cA, n, .inl (upd f t x)))) H1 → va_D A (ws.set q0 (a, .inl (cA, n, .inl (upd f t x)))) → va_S A H0 H1 locs1 → W p l e R s m args below meth c H1 locs1 cells slots Q (F0 m (pc + 1) ls rest)) : W p l e R s m args below meth c H locs cells slots Q (F0 m pc ls (.int x :: .int (nI t) :: .ref a :: rest)) := by
  refine va_iast hexec hb hK hP hD hS q0 t0 ha ht (vp_in_nI hlt hn) hdg fun H1 locs1 h1 h2 h3 => ?_
  rw [nI_clamp (Nat.lt_trans hlt hn)] at h1 h2
  exact kk H1 locs1 h1 h2 h3
end XRA
/-! the table's cells: its object, then kinds, firsts, seconds, thirds, parts, varying, answers -/
abbrev wT (cI : ClassId) (ad : Nat → Nat) (K A B C P V N : Nat → Int32) (n : Nat) : va_W :=
  [(ad 0, .inr (1, [.ref (ad 1), .ref (ad 2), .ref (ad 3), .ref (ad 4), .ref (ad 5), .ref (ad 6), .ref (ad 7), .int (nI n)])), (ad 1, .inl (cI, 12, .inl K)), (ad 2, .inl (cI, 12, .inl A)), (ad 3, .inl (cI, 12, .inl B)), (ad 4, .inl (cI, 12, .inl C)), (ad 5, .inl (cI, 12, .inl P)), (ad 6, .inl (cI, 2, .inl V)), (ad 7, .inl (cI, 12, .inl N))]
/-! small rows -/
theorem xh_a {x : Int32} {n : Nat} (hn : n ≤ 2560) (h : x < 0) : ¬ ∃ j, j < n ∧ x = nI j := by
  rintro ⟨j, hj, rfl⟩
  exact nI_pos (by omega) h
theorem xh_b {x : Int32} {n : Nat} (hn : n ≤ 2560) (h : nI n ≤ x) : ¬ ∃ j, j < n ∧ x = nI j := by
  rintro ⟨j, hj, rfl⟩
  exact nI_ge hj (by omega) h
theorem xh_c {x : Int32} {n : Nat} (hn : n ≤ 2560) (h : ¬ x < 0) (h2 : ¬ nI n ≤ x) : ∃ j, j < n ∧ x = nI j := by
  rcases pk_ix x (n := n) (by omega) with q | q | q
  · exact absurd q h
  · exact absurd q h2
  · exact q
theorem xh_inj {a b : Nat} (ha : a ≤ 2560) (hb : b ≤ 2560) (h : nI a = nI b) : a = b := (nI_eq (by omega) (by omega)).mp h
theorem px_tru_lo {κ : Nat} (h : κ < 10) : px_tru (nI κ) = 0 := by
  have : ∀ κ, κ < 10 → px_tru (nI κ) = 0 := by decide +kernel
  exact this κ h
theorem px_tru_hi {κ : Nat} (h : 10 ≤ κ) (h2 : κ < 20) : px_tru (nI κ) = 1 := by
  have : ∀ κ, κ < 20 → 10 ≤ κ → px_tru (nI κ) = 1 := by decide +kernel
  exact this κ h2 h
theorem px_s1_n {κ : Nat} (h : κ < 20) : px_s1 (nI κ) = nI (pv_s1 κ) := by
  have : ∀ κ, κ < 20 → px_s1 (nI κ) = nI (pv_s1 κ) := by decide +kernel
  exact this κ h
theorem px_s2_n {κ : Nat} (h : κ < 20) : px_s2 (nI κ) = nI (pv_s2 κ) := by
  have : ∀ κ, κ < 20 → px_s2 (nI κ) = nI (pv_s2 κ) := by decide +kernel
  exact this κ h
theorem px_s3_n {κ : Nat} (h : κ < 20) : px_s3 (nI κ) = nI (pv_s3 κ) := by
  have : ∀ κ, κ < 20 → px_s3 (nI κ) = nI (pv_s3 κ) := by decide +kernel
  exact this κ h
theorem px_knd_n {κ : Nat} (h : κ < 20) : px_knd (nI κ) = 1 := by
  have : ∀ κ, κ < 20 → px_knd (nI κ) = 1 := by decide +kernel
  exact this κ h
theorem px_knd_no {x : Int32} (h : ¬ ∃ κ, κ < 20 ∧ x = nI κ) : px_knd x = 0 := by
  unfold px_knd
  by_cases h1 : x < 0
  · rw [if_pos h1]
  · by_cases h2 : (19 : Int32) < x
    · rw [if_neg h1, if_pos h2]
    · exfalso
      refine h (xh_c (n := 20) (by omega) h1 fun z => h2 ?_)
      have z2 : (20 : Int32) ≤ x := z
      rw [Int32.lt_iff_toInt_lt]
      have := Int32.le_iff_toInt_le.mp z2
      have e1 : (20 : Int32).toInt = 20 := by decide
      have e2 : (19 : Int32).toInt = 19 := by decide
      omega
theorem px_ter_n {σ : Nat} (h : σ ≤ 4) : px_ter (nI σ) = if 3 ≤ σ then 1 else 0 := by
  have : ∀ σ, σ ≤ 4 → px_ter (nI σ) = if 3 ≤ σ then 1 else 0 := by decide +kernel
  exact this σ h
theorem pu_isn_y {j : Nat} (h : j < 32) : pu_isn (nI j) = 1 := by
  have : ∀ j, j < 32 → pu_isn (nI j) = 1 := by decide +kernel
  exact this j h
theorem pu_isn_no {x : Int32} (h : ¬ ∃ j, j < 32 ∧ x = nI j) : pu_isn x = 0 := by
  unfold pu_isn
  by_cases h1 : x < 0
  · rw [if_pos h1]
  · by_cases h2 : (31 : Int32) < x
    · rw [if_neg h1, if_pos h2]
    · exfalso
      refine h (xh_c (n := 32) (by omega) h1 fun z => h2 ?_)
      have z2 : (32 : Int32) ≤ x := z
      rw [Int32.lt_iff_toInt_lt]
      have := Int32.le_iff_toInt_le.mp z2
      have e1 : (32 : Int32).toInt = 32 := by decide
      have e2 : (31 : Int32).toInt = 31 := by decide
      omega
theorem pq_alw_n {k : Nat → Nat} {n κ : Nat} {a b c : Int32} (h : κ < 20) : pq_alw k n (nI κ) a b c ↔ pq_fit k n (pv_s1 κ) a ∧ pq_fit k n (pv_s2 κ) b ∧ pq_fit k n (pv_s3 κ) c := by
  constructor
  · rintro ⟨κ', h1, h2, h3⟩
    have e := xh_inj (by omega) (by omega) h2
    subst e
    exact h3
  · exact fun h3 => ⟨κ, h, rfl, h3⟩
section TT1
variable (l : Launch) (dC : Nat → ClassId) (dI : Nat → Nat → Nat) (cI : ClassId) (ad : Nat → Nat) (aK aA aB aC aP aV aN : Nat → Int32) (n : Nat)
set_option maxHeartbeats 4000000 in
set_option maxRecDepth 100000 in
theorem ctX3_count  : Met l yX3_count wsX3_count ({ frames := 0, cells := 0, slots := 0, locals := 0 }) (va_Pc [.ref (ad 0)] (fun U => va_P (dC, dI) vwCl (wT cI ad aK aA aB aC aP aV aN n) U.heap ∧ va_K (dC, dI) vwCl [(cI, .int)] U)) (vp_Si (fun r => r = nI n)) 0 0 (fun _ => False) := by
  refine Met.ofW (cc := cX3_count) (maxL := 1) (ret := (some .int)) (by decide) rfl ?_
  intro p e s m args below meth c s₁ B hml hv
  obtain ⟨rfl, hP, hK⟩ := hv
  have hx := B.exec
  have hb := B.bytes
  have hr := B.returns
  have hts := atoms_spec (ws := wsX3_count) B.pre
  have hown : s.vm.findClass RX3 = some m.cls := findClass_of_methodNamed B.named
  have hlocks := B.notSynchronized
  have hl := lv_entry ([.ref (ad 0)]) (n := 1) (Nat.le_of_ble_eq_true rfl)
  rw [lg_entry_eq]
  generalize (lg_sl ([.ref (ad 0)]) ++ List.replicate (1 - (lg_sl ([.ref (ad 0)])).length) Slot.unset).toArray = ls at hl ⊢
  have hl : lv_has ls 1 [(0, .ref (ad 0))] := hl
  refine lv_aload_n hx hb dX3_count_0 rfl (lv_at hl 0 rfl) ?_
  refine va_get (D := (dC, dI)) (ci := 1) (v := .int (nI n)) (C := RX3) (T := TX3) (N := 8) hx hb hts (fun w h => List.mem_cons_of_mem _ (wf_X3 w h)) hown hK hP 0 rfl rfl 7 (by decide) (hts _ (List.mem_cons_of_mem _ wm_fl_X3_33)) (fun _ h9 => h9) rfl dX3_count_1 ?_
  exact W.iret (v := nI n) hx hb hr (fun t9 ht9 hW9 => ⟨nI n, rfl, rfl, ht9⟩) (fun q hq => by cases hq) dX3_count_4
set_option maxHeartbeats 4000000 in
set_option maxRecDepth 100000 in
theorem ctX3_isFull (hn : n ≤ 12) : Met l yX3_isFull wsX3_isFull ({ frames := 0, cells := 0, slots := 0, locals := 0 }) (va_Pc [.ref (ad 0)] (fun U => va_P (dC, dI) vwCl (wT cI ad aK aA aB aC aP aV aN n) U.heap ∧ va_K (dC, dI) vwCl [(cI, .int)] U)) (vp_Si (fun r => (r = 0 ∧ n < 12) ∨ (r = 1 ∧ n = 12))) 0 0 (fun _ => False) := by
  refine Met.ofW (cc := cX3_isFull) (maxL := 1) (ret := (some .boolean)) (by decide) rfl ?_
  intro p e s m args below meth c s₁ B hml hv
  obtain ⟨rfl, hP, hK⟩ := hv
  have hx := B.exec
  have hb := B.bytes
  have hr := B.returns
  have hts := atoms_spec (ws := wsX3_isFull) B.pre
  have hown : s.vm.findClass RX3 = some m.cls := findClass_of_methodNamed B.named
  have hlocks := B.notSynchronized
  have hl := lv_entry ([.ref (ad 0)]) (n := 1) (Nat.le_of_ble_eq_true rfl)
  rw [lg_entry_eq]
  generalize (lg_sl ([.ref (ad 0)]) ++ List.replicate (1 - (lg_sl ([.ref (ad 0)])).length) Slot.unset).toArray = ls at hl ⊢
  have hl : lv_has ls 1 [(0, .ref (ad 0))] := hl
  refine lv_aload_n hx hb dX3_isFull_0 rfl (lv_at hl 0 rfl) ?_
  refine va_get (D := (dC, dI)) (ci := 1) (v := .int (nI n)) (C := RX3) (T := TX3) (N := 8) hx hb hts (fun w h => List.mem_cons_of_mem _ (wf_X3 w h)) hown hK hP 0 rfl rfl 7 (by decide) (hts _ (List.mem_cons_of_mem _ wm_fl_X3_33)) (fun _ h9 => h9) rfl dX3_isFull_1 ?_
  refine lv_bipush (v := nI 12) hx hb dX3_isFull_4 (by decide) ?_
  refine lv_icmp_lt (tgt := 13) hx hb dX3_isFull_6 (by decide) (fun h1 => ?_) (fun h1 => ?_)
  · skip
    have h1 : n < 12 := (nI_ltI (a := n) (b := 12) (by omega) (by omega)).mp h1
    refine lv_iconst (v := 0) hx hb dX3_isFull_13 (by decide) ?_
    exact W.zret (v := 0) hx hb hr (rfl) (fun t9 ht9 hW9 => ⟨0, rfl, Or.inl ⟨rfl, h1⟩, ht9⟩) (fun q hq => by cases hq) dX3_isFull_14
  · skip
    have h1 : ¬ n < 12 := fun z => h1 ((nI_ltI (a := n) (b := 12) (by omega) (by omega)).mpr z)
    refine lv_iconst (v := nI 1) hx hb dX3_isFull_9 (by decide) ?_
    refine lv_goto (tgt := 14) hx hb dX3_isFull_10 (by decide) ?_
    exact W.zret (v := nI 1) hx hb hr (rfl) (fun t9 ht9 hW9 => ⟨nI 1, rfl, Or.inr ⟨rfl, by omega⟩, ht9⟩) (fun q hq => by cases hq) dX3_isFull_14
set_option maxHeartbeats 4000000 in
set_option maxRecDepth 100000 in
theorem ctX3_has (hn : n ≤ 12) (x : Int32) : Met l yX3_has wsX3_has ({ frames := 0, cells := 0, slots := 0, locals := 0 }) (va_Pc [.ref (ad 0), .int x] (fun U => va_P (dC, dI) vwCl (wT cI ad aK aA aB aC aP aV aN n) U.heap ∧ va_K (dC, dI) vwCl [(cI, .int)] U)) (vp_Si (fun r => (r = 1 ∧ ∃ j, j < n ∧ x = nI j) ∨ (r = 0 ∧ ¬ ∃ j, j < n ∧ x = nI j))) 0 0 (fun _ => False) := by
  refine Met.ofW (cc := cX3_has) (maxL := 2) (ret := (some .boolean)) (by decide) rfl ?_
  intro p e s m args below meth c s₁ B hml hv
  obtain ⟨rfl, hP, hK⟩ := hv
  have hx := B.exec
  have hb := B.bytes
  have hr := B.returns
  have hts := atoms_spec (ws := wsX3_has) B.pre
  have hown : s.vm.findClass RX3 = some m.cls := findClass_of_methodNamed B.named
  have hlocks := B.notSynchronized
  have hl := lv_entry ([.ref (ad 0), .int x]) (n := 2) (Nat.le_of_ble_eq_true rfl)
  rw [lg_entry_eq]
  generalize (lg_sl ([.ref (ad 0), .int x]) ++ List.replicate (2 - (lg_sl ([.ref (ad 0), .int x])).length) Slot.unset).toArray = ls at hl ⊢
  have hl : lv_has ls 2 [(0, .ref (ad 0)), (1, .int x)] := hl
  refine lv_iload_n hx hb dX3_has_0 rfl (lv_at hl 1 rfl) ?_
  refine lv_if_lt (tgt := 16) hx hb dX3_has_1 (by decide) (fun h1 => ?_) (fun h1 => ?_)
  · skip
    refine lv_iconst (v := 0) hx hb dX3_has_16 (by decide) ?_
    exact W.zret (v := 0) hx hb hr (rfl) (fun t9 ht9 hW9 => ⟨0, rfl, Or.inr ⟨rfl, xh_a (by omega) h1⟩, ht9⟩) (fun q hq => by cases hq) dX3_has_17
  · skip
    refine lv_iload_n hx hb dX3_has_4 rfl (lv_at hl 1 rfl) ?_
    refine lv_aload_n hx hb dX3_has_5 rfl (lv_at hl 0 rfl) ?_
    refine va_get (D := (dC, dI)) (ci := 1) (v := .int (nI n)) (C := RX3) (T := TX3) (N := 8) hx hb hts (fun w h => List.mem_cons_of_mem _ (wf_X3 w h)) hown hK hP 0 rfl rfl 7 (by decide) (hts _ (List.mem_cons_of_mem _ wm_fl_X3_33)) (fun _ h9 => h9) rfl dX3_has_6 ?_
    refine lv_icmp_ge (tgt := 16) hx hb dX3_has_9 (by decide) (fun h2 => ?_) (fun h2 => ?_)
    · skip
      refine lv_iconst (v := 0) hx hb dX3_has_16 (by decide) ?_
      exact W.zret (v := 0) hx hb hr (rfl) (fun t9 ht9 hW9 => ⟨0, rfl, Or.inr ⟨rfl, xh_b (by omega) h2⟩, ht9⟩) (fun q hq => by cases hq) dX3_has_17
    · skip
      refine lv_iconst (v := nI 1) hx hb dX3_has_12 (by decide) ?_
      refine lv_goto (tgt := 17) hx hb dX3_has_13 (by decide) ?_
      exact W.zret (v := nI 1) hx hb hr (rfl) (fun t9 ht9 hW9 => ⟨nI 1, rfl, Or.inl ⟨rfl, xh_c (by omega) h1 h2⟩, ht9⟩) (fun q hq => by cases hq) dX3_has_17
set_option maxHeartbeats 4000000 in
set_option maxRecDepth 100000 in
theorem ctX3_isTruth (hn : n ≤ 12) (fk : Nat → Nat) (hk : ∀ t, t < n → aK t = nI (fk t)) (hk2 : ∀ t, t < n → fk t < 20) (x : Int32) : Met l yX3_isTruth wsX3_isTruth ({ frames := 1, cells := 0, slots := 0, locals := 21 }) (va_Pc [.ref (ad 0), .int x] (fun U => va_P (dC, dI) vwCl (wT cI ad aK aA aB aC aP aV aN n) U.heap ∧ va_K (dC, dI) vwCl [(cI, .int)] U)) (vp_Si (fun r => (r = 1 ∧ ∃ j, j < n ∧ x = nI j ∧ 10 ≤ fk j) ∨ (r = 0 ∧ ¬ ∃ j, j < n ∧ x = nI j ∧ 10 ≤ fk j))) 0 0 (fun _ => False) := by
  refine Met.ofW (cc := cX3_isTruth) (maxL := 2) (ret := (some .boolean)) (by decide) rfl ?_
  intro p e s m args below meth c s₁ B hml hv
  obtain ⟨rfl, hP, hK⟩ := hv
  have hx := B.exec
  have hb := B.bytes
  have hr := B.returns
  have hts := atoms_spec (ws := wsX3_isTruth) B.pre
  have hown : s.vm.findClass RX3 = some m.cls := findClass_of_methodNamed B.named
  have hlocks := B.notSynchronized
  have hl := lv_entry ([.ref (ad 0), .int x]) (n := 2) (Nat.le_of_ble_eq_true rfl)
  rw [lg_entry_eq]
  generalize (lg_sl ([.ref (ad 0), .int x]) ++ List.replicate (2 - (lg_sl ([.ref (ad 0), .int x])).length) Slot.unset).toArray = ls at hl ⊢
  have hl : lv_has ls 2 [(0, .ref (ad 0)), (1, .int x)] := hl
  refine lv_aload_n hx hb dX3_isTruth_0 rfl (lv_at hl 0 rfl) ?_
  refine lv_iload_n hx hb dX3_isTruth_1 rfl (lv_at hl 1 rfl) ?_
  refine vp_callSi (W.runV (C := RX3) (b := ad 0) (As := [.int x]) (rest := []) ⟨hx, hb, hml, hown, hts⟩ (ctX3_has l dC dI cI ad aK aA aB aC aP aV aN n hn x) (cwV 1 hts (wA_wsV wm_ml_X3_37 wm_im_X3_has wm_se_X3_has wm_in_X3 wm_cd_X3_has) rfl rfl rfl (by decide +kernel) ⟨Nat.le_of_ble_eq_true rfl, Nat.le_of_ble_eq_true rfl⟩) ⟨fun a U g mk q => by obtain ⟨q0, qP, qK⟩ := q; exact ⟨q0, qP, va_K.moved (u := U) (U := U.calling g mk a) (Vm.Alike.refl U.vm) qK⟩, va_recv (q := (RX3, TX3, 8)) (q0 := 0) hK hP rfl rfl, fun U hU hW => ⟨rfl, by rw [hU]; exact hP, va_K.moved hW.alike hK⟩⟩ rfl rfl hl.1 rfl (lv_room (Nat.le_of_ble_eq_true rfl)) dX3_isTruth_2 ⟨Nat.zero_le _, Nat.zero_le _⟩) (fun r1 er1 => ?_)
  rcases er1 with ⟨rfl, j, hj, rfl⟩ | ⟨rfl, hno⟩
  · skip
    refine lv_if_eq (tgt := 24) hx hb dX3_isTruth_5 (by decide) (fun h2 => absurd h2 (by decide)) (fun _ => ?_)
    refine lv_aload_n hx hb dX3_isTruth_8 rfl (lv_at hl 0 rfl) ?_
    refine va_get (D := (dC, dI)) (ci := 1) (v := .ref (ad 1)) (C := RX3) (T := TX3) (N := 8) hx hb hts (fun w h => List.mem_cons_of_mem _ (wf_X3 w h)) hown hK hP 0 rfl rfl 0 (by decide) (hts _ (List.mem_cons_of_mem _ wm_fl_X3_9)) (fun _ h9 => h9) rfl dX3_isTruth_9 ?_
    refine lv_iload_n hx hb dX3_isTruth_12 rfl (lv_at hl 1 rfl) ?_
    refine xr_iald (t := j) (v := nI (fk j)) hx hb hK hP 1 0 rfl rfl (by omega) (by omega) (hk j (by omega)) dX3_isTruth_13 ?_
    refine vp_callSi (W.runS (As := [.int (nI (fk j))]) (rest := []) ⟨hx, hb, hml, hown, hts⟩ (ctX2_givesTruth l (nI (fk j))) (va_cwS 1 hts (wA_wsS wm_ml_X3_41 wm_st_X2_givesTruth wm_in_X2 wm_cd_X2_givesTruth) rfl rfl rfl (by decide +kernel) ⟨Nat.le_of_ble_eq_true rfl, Nat.le_of_ble_eq_true rfl⟩) ⟨fun a U g mk q => q, fun U hU hW => ⟨rfl, trivial⟩⟩ rfl rfl hl.1 rfl (lv_room (Nat.le_of_ble_eq_true rfl)) dX3_isTruth_14 ⟨Nat.zero_le _, Nat.zero_le _⟩) (fun r3 er3 => ?_)
    by_cases h10 : fk j < 10
    · rw [px_tru_lo h10] at er3
      subst er3
      refine lv_if_eq (tgt := 24) hx hb dX3_isTruth_17 (by decide) (fun _ => ?_) (fun h4 => absurd (by decide) h4)
      refine lv_iconst (v := 0) hx hb dX3_isTruth_24 (by decide) ?_
      exact W.zret (v := 0) hx hb hr (rfl) (fun t9 ht9 hW9 => ⟨0, rfl, Or.inr ⟨rfl, fun ⟨i, h1, h2, h3⟩ => by have e := xh_inj (by omega) (by omega) h2; subst e; omega⟩, ht9⟩) (fun q hq => by cases hq) dX3_isTruth_25
    · rw [px_tru_hi (by omega) (hk2 j hj)] at er3
      subst er3
      refine lv_if_eq (tgt := 24) hx hb dX3_isTruth_17 (by decide) (fun h5 => absurd h5 (by decide)) (fun _ => ?_)
      refine lv_iconst (v := nI 1) hx hb dX3_isTruth_20 (by decide) ?_
      refine lv_goto (tgt := 25) hx hb dX3_isTruth_21 (by decide) ?_
      exact W.zret (v := nI 1) hx hb hr (rfl) (fun t9 ht9 hW9 => ⟨nI 1, rfl, Or.inl ⟨rfl, j, hj, rfl, by omega⟩, ht9⟩) (fun q hq => by cases hq) dX3_isTruth_25
  · skip
    refine lv_if_eq (tgt := 24) hx hb dX3_isTruth_5 (by decide) (fun _ => ?_) (fun h6 => absurd (by decide) h6)
    refine lv_iconst (v := 0) hx hb dX3_isTruth_24 (by decide) ?_
    exact W.zret (v := 0) hx hb hr (rfl) (fun t9 ht9 hW9 => ⟨0, rfl, Or.inr ⟨rfl, fun ⟨j, h1, h2, _⟩ => hno ⟨j, h1, h2⟩⟩, ht9⟩) (fun q hq => by cases hq) dX3_isTruth_25
set_option maxHeartbeats 4000000 in
set_option maxRecDepth 100000 in
theorem ctX3_isNumberTerm (hn : n ≤ 12) (fk : Nat → Nat) (hk : ∀ t, t < n → aK t = nI (fk t)) (hk2 : ∀ t, t < n → fk t < 20) (x : Int32) : Met l yX3_isNumberTerm wsX3_isNumberTerm ({ frames := 1, cells := 0, slots := 0, locals := 21 }) (va_Pc [.ref (ad 0), .int x] (fun U => va_P (dC, dI) vwCl (wT cI ad aK aA aB aC aP aV aN n) U.heap ∧ va_K (dC, dI) vwCl [(cI, .int)] U)) (vp_Si (fun r => (r = 1 ∧ ∃ j, j < n ∧ x = nI j ∧ fk j < 10) ∨ (r = 0 ∧ ¬ ∃ j, j < n ∧ x = nI j ∧ fk j < 10))) 0 0 (fun _ => False) := by
  refine Met.ofW (cc := cX3_isNumberTerm) (maxL := 2) (ret := (some .boolean)) (by decide) rfl ?_
  intro p e s m args below meth c s₁ B hml hv
  obtain ⟨rfl, hP, hK⟩ := hv
  have hx := B.exec
  have hb := B.bytes
  have hr := B.returns
  have hts := atoms_spec (ws := wsX3_isNumberTerm) B.pre
  have hown : s.vm.findClass RX3 = some m.cls := findClass_of_methodNamed B.named
  have hlocks := B.notSynchronized
  have hl := lv_entry ([.ref (ad 0), .int x]) (n := 2) (Nat.le_of_ble_eq_true rfl)
  rw [lg_entry_eq]
  generalize (lg_sl ([.ref (ad 0), .int x]) ++ List.replicate (2 - (lg_sl ([.ref (ad 0), .int x])).length) Slot.unset).toArray = ls at hl ⊢
  have hl : lv_has ls 2 [(0, .ref (ad 0)), (1, .int x)] := hl
  refine lv_aload_n hx hb dX3_isNumberTerm_0 rfl (lv_at hl 0 rfl) ?_
  refine lv_iload_n hx hb dX3_isNumberTerm_1 rfl (lv_at hl 1 rfl) ?_
  refine vp_callSi (W.runV (C := RX3) (b := ad 0) (As := [.int x]) (rest := []) ⟨hx, hb, hml, hown, hts⟩ (ctX3_has l dC dI cI ad aK aA aB aC aP aV aN n hn x) (cwV 1 hts (wA_wsV wm_ml_X3_37 wm_im_X3_has wm_se_X3_has wm_in_X3 wm_cd_X3_has) rfl rfl rfl (by decide +kernel) ⟨Nat.le_of_ble_eq_true rfl, Nat.le_of_ble_eq_true rfl⟩) ⟨fun a U g mk q => by obtain ⟨q0, qP, qK⟩ := q; exact ⟨q0, qP, va_K.moved (u := U) (U := U.calling g mk a) (Vm.Alike.refl U.vm) qK⟩, va_recv (q := (RX3, TX3, 8)) (q0 := 0) hK hP rfl rfl, fun U hU hW => ⟨rfl, by rw [hU]; exact hP, va_K.moved hW.alike hK⟩⟩ rfl rfl hl.1 rfl (lv_room (Nat.le_of_ble_eq_true rfl)) dX3_isNumberTerm_2 ⟨Nat.zero_le _, Nat.zero_le _⟩) (fun r1 er1 => ?_)
  rcases er1 with ⟨rfl, j, hj, rfl⟩ | ⟨rfl, hno⟩
  · skip
    refine lv_if_eq (tgt := 24) hx hb dX3_isNumberTerm_5 (by decide) (fun h2 => absurd h2 (by decide)) (fun _ => ?_)
    refine lv_aload_n hx hb dX3_isNumberTerm_8 rfl (lv_at hl 0 rfl) ?_
    refine va_get (D := (dC, dI)) (ci := 1) (v := .ref (ad 1)) (C := RX3) (T := TX3) (N := 8) hx hb hts (fun w h => List.mem_cons_of_mem _ (wf_X3 w h)) hown hK hP 0 rfl rfl 0 (by decide) (hts _ (List.mem_cons_of_mem _ wm_fl_X3_9)) (fun _ h9 => h9) rfl dX3_isNumberTerm_9 ?_
    refine lv_iload_n hx hb dX3_isNumberTerm_12 rfl (lv_at hl 1 rfl) ?_
    refine xr_iald (t := j) (v := nI (fk j)) hx hb hK hP 1 0 rfl rfl (by omega) (by omega) (hk j (by omega)) dX3_isNumberTerm_13 ?_
    refine vp_callSi (W.runS (As := [.int (nI (fk j))]) (rest := []) ⟨hx, hb, hml, hown, hts⟩ (ctX2_givesTruth l (nI (fk j))) (va_cwS 1 hts (wA_wsS wm_ml_X3_41 wm_st_X2_givesTruth wm_in_X2 wm_cd_X2_givesTruth) rfl rfl rfl (by decide +kernel) ⟨Nat.le_of_ble_eq_true rfl, Nat.le_of_ble_eq_true rfl⟩) ⟨fun a U g mk q => q, fun U hU hW => ⟨rfl, trivial⟩⟩ rfl rfl hl.1 rfl (lv_room (Nat.le_of_ble_eq_true rfl)) dX3_isNumberTerm_14 ⟨Nat.zero_le _, Nat.zero_le _⟩) (fun r3 er3 => ?_)
    by_cases h10 : fk j < 10
    · rw [px_tru_lo h10] at er3
      subst er3
      refine lv_if_ne (tgt := 24) hx hb dX3_isNumberTerm_17 (by decide) (fun h4 => absurd (by decide) h4) (fun _ => ?_)
      refine lv_iconst (v := nI 1) hx hb dX3_isNumberTerm_20 (by decide) ?_
      refine lv_goto (tgt := 25) hx hb dX3_isNumberTerm_21 (by decide) ?_
      exact W.zret (v := nI 1) hx hb hr (rfl) (fun t9 ht9 hW9 => ⟨nI 1, rfl, Or.inl ⟨rfl, j, hj, rfl, by omega⟩, ht9⟩) (fun q hq => by cases hq) dX3_isNumberTerm_25
    · rw [px_tru_hi (by omega) (hk2 j hj)] at er3
      subst er3
      refine lv_if_ne (tgt := 24) hx hb dX3_isNumberTerm_17 (by decide) (fun _ => ?_) (fun h5 => absurd h5 (by decide))
      refine lv_iconst (v := 0) hx hb dX3_isNumberTerm_24 (by decide) ?_
      exact W.zret (v := 0) hx hb hr (rfl) (fun t9 ht9 hW9 => ⟨0, rfl, Or.inr ⟨rfl, fun ⟨i, h1, h2, h3⟩ => by have e := xh_inj (by omega) (by omega) h2; subst e; omega⟩, ht9⟩) (fun q hq => by cases hq) dX3_isNumberTerm_25
  · skip
    refine lv_if_eq (tgt := 24) hx hb dX3_isNumberTerm_5 (by decide) (fun _ => ?_) (fun h6 => absurd (by decide) h6)
    refine lv_iconst (v := 0) hx hb dX3_isNumberTerm_24 (by decide) ?_
    exact W.zret (v := 0) hx hb hr (rfl) (fun t9 ht9 hW9 => ⟨0, rfl, Or.inr ⟨rfl, fun ⟨j, h1, h2, _⟩ => hno ⟨j, h1, h2⟩⟩, ht9⟩) (fun q hq => by cases hq) dX3_isNumberTerm_25
set_option maxHeartbeats 4000000 in
set_option maxRecDepth 100000 in
theorem ctX3_fits (hn : n ≤ 12) (fk : Nat → Nat) (hk : ∀ t, t < n → aK t = nI (fk t)) (hk2 : ∀ t, t < n → fk t < 20) (σ : Nat) (hσ : σ ≤ 4) (x : Int32) : Met l yX3_fits wsX3_fits ({ frames := 2, cells := 0, slots := 0, locals := 42 }) (va_Pc [.ref (ad 0), .int (nI σ), .int x] (fun U => va_P (dC, dI) vwCl (wT cI ad aK aA aB aC aP aV aN n) U.heap ∧ va_K (dC, dI) vwCl [(cI, .int)] U)) (vp_Si (fun r => (r = 1 ∧ pq_fit fk n σ x) ∨ (r = 0 ∧ ¬ pq_fit fk n σ x))) 0 0 (fun _ => False) := by
  refine Met.ofW (cc := cX3_fits) (maxL := 3) (ret := (some .boolean)) (by decide) rfl ?_
  intro p e s m args below meth c s₁ B hml hv
  obtain ⟨rfl, hP, hK⟩ := hv
  have hx := B.exec
  have hb := B.bytes
  have hr := B.returns
  have hts := atoms_spec (ws := wsX3_fits) B.pre
  have hown : s.vm.findClass RX3 = some m.cls := findClass_of_methodNamed B.named
  have hlocks := B.notSynchronized
  have hl := lv_entry ([.ref (ad 0), .int (nI σ), .int x]) (n := 3) (Nat.le_of_ble_eq_true rfl)
  rw [lg_entry_eq]
  generalize (lg_sl ([.ref (ad 0), .int (nI σ), .int x]) ++ List.replicate (3 - (lg_sl ([.ref (ad 0), .int (nI σ), .int x])).length) Slot.unset).toArray = ls at hl ⊢
  have hl : lv_has ls 3 [(0, .ref (ad 0)), (1, .int (nI σ)), (2, .int x)] := hl
  refine lv_iload_n hx hb dX3_fits_0 rfl (lv_at hl 1 rfl) ?_
  rcases (show σ = 0 ∨ σ = 1 ∨ σ = 2 ∨ σ = 3 ∨ σ = 4 by omega) with rfl | rfl | rfl | rfl | rfl
  · refine lv_tableOut (tgt := 64) hx hb dX3_fits_1 (by decide) (by decide) ?_
    refine lv_iconst (v := nI 1) hx hb dX3_fits_64 (by decide) ?_
    exact W.zret (v := nI 1) hx hb hr (rfl) (fun t9 ht9 hW9 => ⟨nI 1, rfl, Or.inl ⟨rfl, Or.inl rfl⟩, ht9⟩) (fun q hq => by cases hq) dX3_fits_65
  · refine lv_tableIn (off := 31) (tgt := 32) hx hb dX3_fits_1 (by decide) (by decide) (by decide) (by decide) ?_
    refine lv_iload_n hx hb dX3_fits_32 rfl (lv_at hl 2 rfl) ?_
    refine lv_if_lt (tgt := 45) hx hb dX3_fits_33 (by decide) (fun h1 => ?_) (fun h1 => ?_)
    · skip
      refine lv_iconst (v := 0) hx hb dX3_fits_45 (by decide) ?_
      exact W.zret (v := 0) hx hb hr (rfl) (fun t9 ht9 hW9 => ⟨0, rfl, Or.inr ⟨rfl, by rintro (z | ⟨z, q⟩ | ⟨z, q⟩ | ⟨z, q⟩ | ⟨z, q⟩) <;> first | omega | exact (xh_a (n := 2) (by omega) h1) q⟩, ht9⟩) (fun q hq => by cases hq) dX3_fits_46
    · skip
      refine lv_iload_n hx hb dX3_fits_36 rfl (lv_at hl 2 rfl) ?_
      refine lv_iconst (v := nI 2) hx hb dX3_fits_37 (by decide) ?_
      refine lv_icmp_ge (tgt := 45) hx hb dX3_fits_38 (by decide) (fun h2 => ?_) (fun h2 => ?_)
      · skip
        refine lv_iconst (v := 0) hx hb dX3_fits_45 (by decide) ?_
        exact W.zret (v := 0) hx hb hr (rfl) (fun t9 ht9 hW9 => ⟨0, rfl, Or.inr ⟨rfl, by rintro (z | ⟨z, q⟩ | ⟨z, q⟩ | ⟨z, q⟩ | ⟨z, q⟩) <;> first | omega | exact (xh_b (n := 2) (by omega) h2) q⟩, ht9⟩) (fun q hq => by cases hq) dX3_fits_46
      · skip
        refine lv_iconst (v := nI 1) hx hb dX3_fits_41 (by decide) ?_
        refine lv_goto (tgt := 46) hx hb dX3_fits_42 (by decide) ?_
        exact W.zret (v := nI 1) hx hb hr (rfl) (fun t9 ht9 hW9 => ⟨nI 1, rfl, Or.inl ⟨rfl, Or.inr (Or.inl ⟨rfl, xh_c (n := 2) (by omega) h1 h2⟩)⟩, ht9⟩) (fun q hq => by cases hq) dX3_fits_46
  · refine lv_tableIn (off := 46) (tgt := 47) hx hb dX3_fits_1 (by decide) (by decide) (by decide) (by decide) ?_
    refine lv_iload_n hx hb dX3_fits_47 rfl (lv_at hl 2 rfl) ?_
    refine vp_callSi (W.runS (As := [.int x]) (rest := []) ⟨hx, hb, hml, hown, hts⟩ (ctX1_isNumber l x) (va_cwS 1 hts (wA_wsS wm_ml_X3_63 wm_st_X1_isNumber wm_in_X1 wm_cd_X1_isNumber) rfl rfl rfl (by decide +kernel) ⟨Nat.le_of_ble_eq_true rfl, Nat.le_of_ble_eq_true rfl⟩) ⟨fun a U g mk q => q, fun U hU hW => ⟨rfl, trivial⟩⟩ rfl rfl hl.1 rfl (lv_room (Nat.le_of_ble_eq_true rfl)) dX3_fits_48 ⟨Nat.zero_le _, Nat.zero_le _⟩) (fun r3 er3 => ?_)
    by_cases h32 : ∃ j, j < 32 ∧ x = nI j
    · obtain ⟨j, hj, rfl⟩ := h32
      rw [pu_isn_y hj] at er3
      subst er3
      exact W.zret (v := 1) hx hb hr (rfl) (fun t9 ht9 hW9 => ⟨1, rfl, Or.inl ⟨rfl, Or.inr (Or.inr (Or.inl ⟨rfl, j, hj, rfl⟩))⟩, ht9⟩) (fun q hq => by cases hq) dX3_fits_51
    · rw [pu_isn_no h32] at er3
      subst er3
      exact W.zret (v := 0) hx hb hr (rfl) (fun t9 ht9 hW9 => ⟨0, rfl, Or.inr ⟨rfl, by rintro (z | ⟨z, q⟩ | ⟨z, q⟩ | ⟨z, q⟩ | ⟨z, q⟩) <;> first | omega | exact h32 q⟩, ht9⟩) (fun q hq => by cases hq) dX3_fits_51
  · refine lv_tableIn (off := 51) (tgt := 52) hx hb dX3_fits_1 (by decide) (by decide) (by decide) (by decide) ?_
    refine lv_aload_n hx hb dX3_fits_52 rfl (lv_at hl 0 rfl) ?_
    refine lv_iload_n hx hb dX3_fits_53 rfl (lv_at hl 2 rfl) ?_
    refine vp_callSi (W.runV (C := RX3) (b := ad 0) (As := [.int x]) (rest := []) ⟨hx, hb, hml, hown, hts⟩ (ctX3_isNumberTerm l dC dI cI ad aK aA aB aC aP aV aN n hn fk hk hk2 x) (cwV 1 hts (wA_wsV wm_ml_X3_68 wm_im_X3_isNumberTerm wm_se_X3_isNumberTerm wm_in_X3 wm_cd_X3_isNumberTerm) rfl rfl rfl (by decide +kernel) ⟨Nat.le_of_ble_eq_true rfl, Nat.le_of_ble_eq_true rfl⟩) ⟨fun a U g mk q => by obtain ⟨q0, qP, qK⟩ := q; exact ⟨q0, qP, va_K.moved (u := U) (U := U.calling g mk a) (Vm.Alike.refl U.vm) qK⟩, va_recv (q := (RX3, TX3, 8)) (q0 := 0) hK hP rfl rfl, fun U hU hW => ⟨rfl, by rw [hU]; exact hP, va_K.moved hW.alike hK⟩⟩ rfl rfl hl.1 rfl (lv_room (Nat.le_of_ble_eq_true rfl)) dX3_fits_54 ⟨Nat.zero_le _, Nat.zero_le _⟩) (fun r4 er4 => ?_)
    rcases er4 with ⟨rfl, hy⟩ | ⟨rfl, hno⟩
    · skip
      exact W.zret (v := 1) hx hb hr (rfl) (fun t9 ht9 hW9 => ⟨1, rfl, Or.inl ⟨rfl, Or.inr (Or.inr (Or.inr (Or.inl ⟨rfl, hy⟩)))⟩, ht9⟩) (fun q hq => by cases hq) dX3_fits_57
    · skip
      exact W.zret (v := 0) hx hb hr (rfl) (fun t9 ht9 hW9 => ⟨0, rfl, Or.inr ⟨rfl, by rintro (z | ⟨z, q⟩ | ⟨z, q⟩ | ⟨z, q⟩ | ⟨z, q⟩) <;> first | omega | exact hno q⟩, ht9⟩) (fun q hq => by cases hq) dX3_fits_57
  · refine lv_tableIn (off := 57) (tgt := 58) hx hb dX3_fits_1 (by decide) (by decide) (by decide) (by decide) ?_
    refine lv_aload_n hx hb dX3_fits_58 rfl (lv_at hl 0 rfl) ?_
    refine lv_iload_n hx hb dX3_fits_59 rfl (lv_at hl 2 rfl) ?_
    refine vp_callSi (W.runV (C := RX3) (b := ad 0) (As := [.int x]) (rest := []) ⟨hx, hb, hml, hown, hts⟩ (ctX3_isTruth l dC dI cI ad aK aA aB aC aP aV aN n hn fk hk hk2 x) (cwV 1 hts (wA_wsV wm_ml_X3_71 wm_im_X3_isTruth wm_se_X3_isTruth wm_in_X3 wm_cd_X3_isTruth) rfl rfl rfl (by decide +kernel) ⟨Nat.le_of_ble_eq_true rfl, Nat.le_of_ble_eq_true rfl⟩) ⟨fun a U g mk q => by obtain ⟨q0, qP, qK⟩ := q; exact ⟨q0, qP, va_K.moved (u := U) (U := U.calling g mk a) (Vm.Alike.refl U.vm) qK⟩, va_recv (q := (RX3, TX3, 8)) (q0 := 0) hK hP rfl rfl, fun U hU hW => ⟨rfl, by rw [hU]; exact hP, va_K.moved hW.alike hK⟩⟩ rfl rfl hl.1 rfl (lv_room (Nat.le_of_ble_eq_true rfl)) dX3_fits_60 ⟨Nat.zero_le _, Nat.zero_le _⟩) (fun r5 er5 => ?_)
    rcases er5 with ⟨rfl, hy⟩ | ⟨rfl, hno⟩
    · skip
      exact W.zret (v := 1) hx hb hr (rfl) (fun t9 ht9 hW9 => ⟨1, rfl, Or.inl ⟨rfl, Or.inr (Or.inr (Or.inr (Or.inr ⟨rfl, hy⟩)))⟩, ht9⟩) (fun q hq => by cases hq) dX3_fits_63
    · skip
      exact W.zret (v := 0) hx hb hr (rfl) (fun t9 ht9 hW9 => ⟨0, rfl, Or.inr ⟨rfl, by rintro (z | ⟨z, q⟩ | ⟨z, q⟩ | ⟨z, q⟩ | ⟨z, q⟩) <;> first | omega | exact hno q⟩, ht9⟩) (fun q hq => by cases hq) dX3_fits_63
set_option maxHeartbeats 4000000 in
set_option maxRecDepth 100000 in
theorem ctX3_allows (hn : n ≤ 12) (fk : Nat → Nat) (hk : ∀ t, t < n → aK t = nI (fk t)) (hk2 : ∀ t, t < n → fk t < 20) (kd a0 b0 c0 : Int32) : Met l yX3_allows wsX3_allows ({ frames := 3, cells := 0, slots := 0, locals := 64 }) (va_Pc [.ref (ad 0), .int kd, .int a0, .int b0, .int c0] (fun U => va_P (dC, dI) vwCl (wT cI ad aK aA aB aC aP aV aN n) U.heap ∧ va_K (dC, dI) vwCl [(cI, .int)] U)) (vp_Si (fun r => (r = 1 ∧ pq_alw fk n kd a0 b0 c0) ∨ (r = 0 ∧ ¬ pq_alw fk n kd a0 b0 c0))) 0 0 (fun _ => False) := by
  refine Met.ofW (cc := cX3_allows) (maxL := 5) (ret := (some .boolean)) (by decide) rfl ?_
  intro p e s m args below meth c s₁ B hml hv
  obtain ⟨rfl, hP, hK⟩ := hv
  have hx := B.exec
  have hb := B.bytes
  have hr := B.returns
  have hts := atoms_spec (ws := wsX3_allows) B.pre
  have hown : s.vm.findClass RX3 = some m.cls := findClass_of_methodNamed B.named
  have hlocks := B.notSynchronized
  have hl := lv_entry ([.ref (ad 0), .int kd, .int a0, .int b0, .int c0]) (n := 5) (Nat.le_of_ble_eq_true rfl)
  rw [lg_entry_eq]
  generalize (lg_sl ([.ref (ad 0), .int kd, .int a0, .int b0, .int c0]) ++ List.replicate (5 - (lg_sl ([.ref (ad 0), .int kd, .int a0, .int b0, .int c0])).length) Slot.unset).toArray = ls at hl ⊢
  have hl : lv_has ls 5 [(0, .ref (ad 0)), (1, .int kd), (2, .int a0), (3, .int b0), (4, .int c0)] := hl
  refine lv_iload_n hx hb dX3_allows_0 rfl (lv_at hl 1 rfl) ?_
  refine vp_callSi (W.runS (As := [.int kd]) (rest := []) ⟨hx, hb, hml, hown, hts⟩ (ctX2_isKind l kd) (va_cwS 1 hts (wA_wsS wm_ml_X3_46 wm_st_X2_isKind wm_in_X2 wm_cd_X2_isKind) rfl rfl rfl (by decide +kernel) ⟨Nat.le_of_ble_eq_true rfl, Nat.le_of_ble_eq_true rfl⟩) ⟨fun a U g mk q => q, fun U hU hW => ⟨rfl, trivial⟩⟩ rfl rfl hl.1 rfl (lv_room (Nat.le_of_ble_eq_true rfl)) dX3_allows_1 ⟨Nat.zero_le _, Nat.zero_le _⟩) (fun r1 er1 => ?_)
  by_cases h20 : ∃ κ, κ < 20 ∧ kd = nI κ
  · obtain ⟨κ, hκ, rfl⟩ := h20
    rw [px_knd_n hκ] at er1
    subst er1
    have s1 := pv_s1_le κ
    have s2 := pv_s2_le κ
    have s3 := pv_s3_le κ
    refine lv_if_eq (tgt := 48) hx hb dX3_allows_4 (by decide) (fun h2 => absurd h2 (by decide)) (fun _ => ?_)
    refine lv_aload_n hx hb dX3_allows_7 rfl (lv_at hl 0 rfl) ?_
    refine lv_iload_n hx hb dX3_allows_8 rfl (lv_at hl 1 rfl) ?_
    refine vp_callSi (W.runS (As := [.int (nI κ)]) (rest := [.ref (ad 0)]) ⟨hx, hb, hml, hown, hts⟩ (ctX2_ofFirst l (nI κ)) (va_cwS 1 hts (wA_wsS wm_ml_X3_49 wm_st_X2_ofFirst wm_in_X2 wm_cd_X2_ofFirst) rfl rfl rfl (by decide +kernel) ⟨Nat.le_of_ble_eq_true rfl, Nat.le_of_ble_eq_true rfl⟩) ⟨fun a U g mk q => q, fun U hU hW => ⟨rfl, trivial⟩⟩ rfl rfl hl.1 rfl (lv_room (Nat.le_of_ble_eq_true rfl)) dX3_allows_9 ⟨Nat.zero_le _, Nat.zero_le _⟩) (fun r3 er3 => ?_)
    rw [px_s1_n hκ] at er3
    subst er3
    refine lv_iload_n hx hb dX3_allows_12 rfl (lv_at hl 2 rfl) ?_
    refine vp_callSi (W.runV (C := RX3) (b := ad 0) (As := [.int (nI (pv_s1 κ)), .int a0]) (rest := []) ⟨hx, hb, hml, hown, hts⟩ (ctX3_fits l dC dI cI ad aK aA aB aC aP aV aN n hn fk hk hk2 (pv_s1 κ) (by omega) a0) (cwV 2 hts (wA_wsV wm_ml_X3_53 wm_im_X3_fits wm_se_X3_fits wm_in_X3 wm_cd_X3_fits) rfl rfl rfl (by decide +kernel) ⟨Nat.le_of_ble_eq_true rfl, Nat.le_of_ble_eq_true rfl⟩) ⟨fun a U g mk q => by obtain ⟨q0, qP, qK⟩ := q; exact ⟨q0, qP, va_K.moved (u := U) (U := U.calling g mk a) (Vm.Alike.refl U.vm) qK⟩, va_recv (q := (RX3, TX3, 8)) (q0 := 0) hK hP rfl rfl, fun U hU hW => ⟨rfl, by rw [hU]; exact hP, va_K.moved hW.alike hK⟩⟩ rfl rfl hl.1 rfl (lv_room (Nat.le_of_ble_eq_true rfl)) dX3_allows_13 ⟨Nat.zero_le _, Nat.zero_le _⟩) (fun r4 er4 => ?_)
    rcases er4 with ⟨rfl, hf1⟩ | ⟨rfl, hno⟩
    · skip
      refine lv_if_eq (tgt := 48) hx hb dX3_allows_16 (by decide) (fun h5 => absurd h5 (by decide)) (fun _ => ?_)
      refine lv_aload_n hx hb dX3_allows_19 rfl (lv_at hl 0 rfl) ?_
      refine lv_iload_n hx hb dX3_allows_20 rfl (lv_at hl 1 rfl) ?_
      refine vp_callSi (W.runS (As := [.int (nI κ)]) (rest := [.ref (ad 0)]) ⟨hx, hb, hml, hown, hts⟩ (ctX2_ofSecond l (nI κ)) (va_cwS 1 hts (wA_wsS wm_ml_X3_57 wm_st_X2_ofSecond wm_in_X2 wm_cd_X2_ofSecond) rfl rfl rfl (by decide +kernel) ⟨Nat.le_of_ble_eq_true rfl, Nat.le_of_ble_eq_true rfl⟩) ⟨fun a U g mk q => q, fun U hU hW => ⟨rfl, trivial⟩⟩ rfl rfl hl.1 rfl (lv_room (Nat.le_of_ble_eq_true rfl)) dX3_allows_21 ⟨Nat.zero_le _, Nat.zero_le _⟩) (fun r6 er6 => ?_)
      rw [px_s2_n hκ] at er6
      subst er6
      refine lv_iload_n hx hb dX3_allows_24 rfl (lv_at hl 3 rfl) ?_
      refine vp_callSi (W.runV (C := RX3) (b := ad 0) (As := [.int (nI (pv_s2 κ)), .int b0]) (rest := []) ⟨hx, hb, hml, hown, hts⟩ (ctX3_fits l dC dI cI ad aK aA aB aC aP aV aN n hn fk hk hk2 (pv_s2 κ) (by omega) b0) (cwV 2 hts (wA_wsV wm_ml_X3_53 wm_im_X3_fits wm_se_X3_fits wm_in_X3 wm_cd_X3_fits) rfl rfl rfl (by decide +kernel) ⟨Nat.le_of_ble_eq_true rfl, Nat.le_of_ble_eq_true rfl⟩) ⟨fun a U g mk q => by obtain ⟨q0, qP, qK⟩ := q; exact ⟨q0, qP, va_K.moved (u := U) (U := U.calling g mk a) (Vm.Alike.refl U.vm) qK⟩, va_recv (q := (RX3, TX3, 8)) (q0 := 0) hK hP rfl rfl, fun U hU hW => ⟨rfl, by rw [hU]; exact hP, va_K.moved hW.alike hK⟩⟩ rfl rfl hl.1 rfl (lv_room (Nat.le_of_ble_eq_true rfl)) dX3_allows_25 ⟨Nat.zero_le _, Nat.zero_le _⟩) (fun r7 er7 => ?_)
      rcases er7 with ⟨rfl, hf2⟩ | ⟨rfl, hno⟩
      · skip
        refine lv_if_eq (tgt := 48) hx hb dX3_allows_28 (by decide) (fun h8 => absurd h8 (by decide)) (fun _ => ?_)
        refine lv_aload_n hx hb dX3_allows_31 rfl (lv_at hl 0 rfl) ?_
        refine lv_iload_n hx hb dX3_allows_32 rfl (lv_at hl 1 rfl) ?_
        refine vp_callSi (W.runS (As := [.int (nI κ)]) (rest := [.ref (ad 0)]) ⟨hx, hb, hml, hown, hts⟩ (ctX2_ofThird l (nI κ)) (va_cwS 1 hts (wA_wsS wm_ml_X3_60 wm_st_X2_ofThird wm_in_X2 wm_cd_X2_ofThird) rfl rfl rfl (by decide +kernel) ⟨Nat.le_of_ble_eq_true rfl, Nat.le_of_ble_eq_true rfl⟩) ⟨fun a U g mk q => q, fun U hU hW => ⟨rfl, trivial⟩⟩ rfl rfl hl.1 rfl (lv_room (Nat.le_of_ble_eq_true rfl)) dX3_allows_33 ⟨Nat.zero_le _, Nat.zero_le _⟩) (fun r9 er9 => ?_)
        rw [px_s3_n hκ] at er9
        subst er9
        refine lv_iload hx hb dX3_allows_36 (lv_at hl 4 rfl) ?_
        refine vp_callSi (W.runV (C := RX3) (b := ad 0) (As := [.int (nI (pv_s3 κ)), .int c0]) (rest := []) ⟨hx, hb, hml, hown, hts⟩ (ctX3_fits l dC dI cI ad aK aA aB aC aP aV aN n hn fk hk hk2 (pv_s3 κ) (by omega) c0) (cwV 2 hts (wA_wsV wm_ml_X3_53 wm_im_X3_fits wm_se_X3_fits wm_in_X3 wm_cd_X3_fits) rfl rfl rfl (by decide +kernel) ⟨Nat.le_of_ble_eq_true rfl, Nat.le_of_ble_eq_true rfl⟩) ⟨fun a U g mk q => by obtain ⟨q0, qP, qK⟩ := q; exact ⟨q0, qP, va_K.moved (u := U) (U := U.calling g mk a) (Vm.Alike.refl U.vm) qK⟩, va_recv (q := (RX3, TX3, 8)) (q0 := 0) hK hP rfl rfl, fun U hU hW => ⟨rfl, by rw [hU]; exact hP, va_K.moved hW.alike hK⟩⟩ rfl rfl hl.1 rfl (lv_room (Nat.le_of_ble_eq_true rfl)) dX3_allows_38 ⟨Nat.zero_le _, Nat.zero_le _⟩) (fun r10 er10 => ?_)
        rcases er10 with ⟨rfl, hf3⟩ | ⟨rfl, hno⟩
        · skip
          refine lv_if_eq (tgt := 48) hx hb dX3_allows_41 (by decide) (fun h11 => absurd h11 (by decide)) (fun _ => ?_)
          refine lv_iconst (v := 1) hx hb dX3_allows_44 (by decide) ?_
          refine lv_goto (tgt := 49) hx hb dX3_allows_45 (by decide) ?_
          exact W.zret (v := 1) hx hb hr (rfl) (fun t9 ht9 hW9 => ⟨1, rfl, Or.inl ⟨rfl, (pq_alw_n hκ).mpr ⟨hf1, hf2, hf3⟩⟩, ht9⟩) (fun q hq => by cases hq) dX3_allows_49
        · skip
          refine lv_if_eq (tgt := 48) hx hb dX3_allows_41 (by decide) (fun _ => ?_) (fun h12 => absurd (by decide) h12)
          refine lv_iconst (v := 0) hx hb dX3_allows_48 (by decide) ?_
          exact W.zret (v := 0) hx hb hr (rfl) (fun t9 ht9 hW9 => ⟨0, rfl, Or.inr ⟨rfl, fun z => hno ((pq_alw_n hκ).mp z).2.2⟩, ht9⟩) (fun q hq => by cases hq) dX3_allows_49
      · skip
        refine lv_if_eq (tgt := 48) hx hb dX3_allows_28 (by decide) (fun _ => ?_) (fun h13 => absurd (by decide) h13)
        refine lv_iconst (v := 0) hx hb dX3_allows_48 (by decide) ?_
        exact W.zret (v := 0) hx hb hr (rfl) (fun t9 ht9 hW9 => ⟨0, rfl, Or.inr ⟨rfl, fun z => hno ((pq_alw_n hκ).mp z).2.1⟩, ht9⟩) (fun q hq => by cases hq) dX3_allows_49
    · skip
      refine lv_if_eq (tgt := 48) hx hb dX3_allows_16 (by decide) (fun _ => ?_) (fun h14 => absurd (by decide) h14)
      refine lv_iconst (v := 0) hx hb dX3_allows_48 (by decide) ?_
      exact W.zret (v := 0) hx hb hr (rfl) (fun t9 ht9 hW9 => ⟨0, rfl, Or.inr ⟨rfl, fun z => hno ((pq_alw_n hκ).mp z).1⟩, ht9⟩) (fun q hq => by cases hq) dX3_allows_49
  · rw [px_knd_no h20] at er1
    subst er1
    refine lv_if_eq (tgt := 48) hx hb dX3_allows_4 (by decide) (fun _ => ?_) (fun h15 => absurd (by decide) h15)
    refine lv_iconst (v := 0) hx hb dX3_allows_48 (by decide) ?_
    exact W.zret (v := 0) hx hb hr (rfl) (fun t9 ht9 hW9 => ⟨0, rfl, Or.inr ⟨rfl, fun ⟨κ, h1, h2, _⟩ => h20 ⟨κ, h1, h2⟩⟩, ht9⟩) (fun q hq => by cases hq) dX3_allows_49
end TT1
