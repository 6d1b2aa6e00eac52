/-! small rows for switches and booleans -/
theorem sw_out {x : Int32} (lo hi : Nat) (hh : hi < 2 ^ 31) (h : ∀ j : Nat, lo ≤ j → j ≤ hi → x ≠ nI j) : x.toInt < (lo : Int) ∨ (hi : Int) < x.toInt := by
  by_cases h1 : x.toInt < (lo : Int)
  · exact Or.inl h1
  · by_cases h2 : (hi : Int) < x.toInt
    · exact Or.inr h2
    · exfalso
      refine h x.toInt.toNat (by omega) (by omega) (Int32.toInt_inj.mp ?_)
      rw [nI_toInt (by omega)]
      omega
theorem sw_b {r : Int32} (h : r = 0 ∨ r = 1) : narrow .boolean (.int r) = .int r := by rcases h with rfl | rfl <;> rfl
set_option maxHeartbeats 4000000 in
set_option maxRecDepth 100000 in
theorem ctX1_isNan (l : Launch) (x : Int32) : Met l yX1_isNan wsX1_isNan ({ frames := 0, cells := 0, slots := 0, locals := 0 }) (va_Pc [.int x] (fun _ => True)) (vp_Si (fun r => r = pu_nan x)) 0 0 (fun _ => False) := by
  refine Met.ofW (cc := cX1_isNan) (maxL := 1) (ret := (some .boolean)) (by decide) rfl ?_
  intro p e s m args below meth c s₁ B hml hv
  obtain ⟨rfl, -⟩ := hv
  have hx := B.exec
  have hb := B.bytes
  have hr := B.returns
  have hts := atoms_spec (ws := wsX1_isNan) B.pre
  have hown : s.vm.findClass RX1 = some m.cls := findClass_of_methodNamed B.named
  have hlocks := B.notSynchronized
  have hl := lv_entry ([.int x]) (n := 1) (Nat.le_of_ble_eq_true rfl)
  rw [lg_entry_eq]
  generalize (lg_sl ([.int x]) ++ List.replicate (1 - (lg_sl ([.int x])).length) Slot.unset).toArray = ls at hl ⊢
  have hl : lv_has ls 1 [(0, .int x)] := hl
  refine lv_iload_n hx hb dX1_isNan_0 rfl (lv_at hl 0 rfl) ?_
  refine lv_bipush (v := 15) hx hb dX1_isNan_1 (by decide) ?_
  refine lv_iand hx hb dX1_isNan_3 ?_
  refine lv_bipush (v := 12) hx hb dX1_isNan_4 (by decide) ?_
  refine lv_icmp_le (tgt := 13) hx hb dX1_isNan_6 (by decide) (fun h1 => ?_) (fun h1 => ?_)
  · skip
    have h1b := Int32.not_lt.mpr h1
    refine lv_iconst (v := 0) hx hb dX1_isNan_13 (by decide) ?_
    exact W.zret (v := 0) hx hb hr (rfl) (fun t ht hW => ⟨0, rfl, by first | (simp only [pu_nan, h1, h1b, ↓reduceIte, not_true_eq_false, not_false_eq_true, and_true, true_and, and_false, false_and, or_true, true_or, or_false, false_or, and_self, or_self]; done) | (simp [pu_nan, h1, h1b]; done) | (simp_all [pu_nan]; done), ht⟩) (fun q hq => by cases hq) dX1_isNan_14
  · skip
    have h1b := Int32.not_le.mp h1
    refine lv_iconst (v := 1) hx hb dX1_isNan_9 (by decide) ?_
    refine lv_goto (tgt := 14) hx hb dX1_isNan_10 (by decide) ?_
    exact W.zret (v := 1) hx hb hr (rfl) (fun t ht hW => ⟨1, rfl, by first | (simp only [pu_nan, h1, h1b, ↓reduceIte, not_true_eq_false, not_false_eq_true, and_true, true_and, and_false, false_and, or_true, true_or, or_false, false_or, and_self, or_self]; done) | (simp [pu_nan, h1, h1b]; done) | (simp_all [pu_nan]; done), ht⟩) (fun q hq => by cases hq) dX1_isNan_14
set_option maxHeartbeats 4000000 in
set_option maxRecDepth 100000 in
theorem ctX1_isInfinite (l : Launch) (x : Int32) : Met l yX1_isInfinite wsX1_isInfinite ({ frames := 0, cells := 0, slots := 0, locals := 0 }) (va_Pc [.int x] (fun _ => True)) (vp_Si (fun r => r = pu_inf x)) 0 0 (fun _ => False) := by
  refine Met.ofW (cc := cX1_isInfinite) (maxL := 1) (ret := (some .boolean)) (by decide) rfl ?_
  intro p e s m args below meth c s₁ B hml hv
  obtain ⟨rfl, -⟩ := hv
  have hx := B.exec
  have hb := B.bytes
  have hr := B.returns
  have hts := atoms_spec (ws := wsX1_isInfinite) B.pre
  have hown : s.vm.findClass RX1 = some m.cls := findClass_of_methodNamed B.named
  have hlocks := B.notSynchronized
  have hl := lv_entry ([.int x]) (n := 1) (Nat.le_of_ble_eq_true rfl)
  rw [lg_entry_eq]
  generalize (lg_sl ([.int x]) ++ List.replicate (1 - (lg_sl ([.int x])).length) Slot.unset).toArray = ls at hl ⊢
  have hl : lv_has ls 1 [(0, .int x)] := hl
  refine lv_iload_n hx hb dX1_isInfinite_0 rfl (lv_at hl 0 rfl) ?_
  refine lv_bipush (v := 15) hx hb dX1_isInfinite_1 (by decide) ?_
  refine lv_iand hx hb dX1_isInfinite_3 ?_
  refine lv_bipush (v := 12) hx hb dX1_isInfinite_4 (by decide) ?_
  refine lv_icmp_ne (tgt := 13) hx hb dX1_isInfinite_6 (by decide) (fun h1 => ?_) (fun h1 => ?_)
  · skip
    refine lv_iconst (v := 0) hx hb dX1_isInfinite_13 (by decide) ?_
    exact W.zret (v := 0) hx hb hr (rfl) (fun t ht hW => ⟨0, rfl, by first | (simp only [pu_inf, h1, ↓reduceIte, not_true_eq_false, not_false_eq_true, and_true, true_and, and_false, false_and, or_true, true_or, or_false, false_or, and_self, or_self]; done) | (simp [pu_inf, h1]; done) | (simp_all [pu_inf]; done), ht⟩) (fun q hq => by cases hq) dX1_isInfinite_14
  · skip
    refine lv_iconst (v := 1) hx hb dX1_isInfinite_9 (by decide) ?_
    refine lv_goto (tgt := 14) hx hb dX1_isInfinite_10 (by decide) ?_
    exact W.zret (v := 1) hx hb hr (rfl) (fun t ht hW => ⟨1, rfl, by first | (simp only [pu_inf, h1, ↓reduceIte, not_true_eq_false, not_false_eq_true, and_true, true_and, and_false, false_and, or_true, true_or, or_false, false_or, and_self, or_self]; done) | (simp [pu_inf, h1]; done) | (simp_all [pu_inf]; done), ht⟩) (fun q hq => by cases hq) dX1_isInfinite_14
set_option maxHeartbeats 4000000 in
set_option maxRecDepth 100000 in
theorem ctX1_isZero (l : Launch) (x : Int32) : Met l yX1_isZero wsX1_isZero ({ frames := 0, cells := 0, slots := 0, locals := 0 }) (va_Pc [.int x] (fun _ => True)) (vp_Si (fun r => r = pu_zer x)) 0 0 (fun _ => False) := by
  refine Met.ofW (cc := cX1_isZero) (maxL := 1) (ret := (some .boolean)) (by decide) rfl ?_
  intro p e s m args below meth c s₁ B hml hv
  obtain ⟨rfl, -⟩ := hv
  have hx := B.exec
  have hb := B.bytes
  have hr := B.returns
  have hts := atoms_spec (ws := wsX1_isZero) B.pre
  have hown : s.vm.findClass RX1 = some m.cls := findClass_of_methodNamed B.named
  have hlocks := B.notSynchronized
  have hl := lv_entry ([.int x]) (n := 1) (Nat.le_of_ble_eq_true rfl)
  rw [lg_entry_eq]
  generalize (lg_sl ([.int x]) ++ List.replicate (1 - (lg_sl ([.int x])).length) Slot.unset).toArray = ls at hl ⊢
  have hl : lv_has ls 1 [(0, .int x)] := hl
  refine lv_iload_n hx hb dX1_isZero_0 rfl (lv_at hl 0 rfl) ?_
  refine lv_bipush (v := 15) hx hb dX1_isZero_1 (by decide) ?_
  refine lv_iand hx hb dX1_isZero_3 ?_
  refine lv_if_ne (tgt := 11) hx hb dX1_isZero_4 (by decide) (fun h1 => ?_) (fun h1 => ?_)
  · skip
    refine lv_iconst (v := 0) hx hb dX1_isZero_11 (by decide) ?_
    exact W.zret (v := 0) hx hb hr (rfl) (fun t ht hW => ⟨0, rfl, by first | (simp only [pu_zer, h1, ↓reduceIte, not_true_eq_false, not_false_eq_true, and_true, true_and, and_false, false_and, or_true, true_or, or_false, false_or, and_self, or_self]; done) | (simp [pu_zer, h1]; done) | (simp_all [pu_zer]; done), ht⟩) (fun q hq => by cases hq) dX1_isZero_12
  · skip
    refine lv_iconst (v := 1) hx hb dX1_isZero_7 (by decide) ?_
    refine lv_goto (tgt := 12) hx hb dX1_isZero_8 (by decide) ?_
    exact W.zret (v := 1) hx hb hr (rfl) (fun t ht hW => ⟨1, rfl, by first | (simp only [pu_zer, h1, ↓reduceIte, not_true_eq_false, not_false_eq_true, and_true, true_and, and_false, false_and, or_true, true_or, or_false, false_or, and_self, or_self]; done) | (simp [pu_zer, h1]; done) | (simp_all [pu_zer]; done), ht⟩) (fun q hq => by cases hq) dX1_isZero_12
set_option maxHeartbeats 4000000 in
set_option maxRecDepth 100000 in
theorem ctX1_negate (l : Launch) (x : Int32) : Met l yX1_negate wsX1_negate ({ frames := 0, cells := 0, slots := 0, locals := 0 }) (va_Pc [.int x] (fun _ => True)) (vp_Si (fun r => r = pu_neg x)) 0 0 (fun _ => False) := by
  refine Met.ofW (cc := cX1_negate) (maxL := 1) (ret := (some .int)) (by decide) rfl ?_
  intro p e s m args below meth c s₁ B hml hv
  obtain ⟨rfl, -⟩ := hv
  have hx := B.exec
  have hb := B.bytes
  have hr := B.returns
  have hts := atoms_spec (ws := wsX1_negate) B.pre
  have hown : s.vm.findClass RX1 = some m.cls := findClass_of_methodNamed B.named
  have hlocks := B.notSynchronized
  have hl := lv_entry ([.int x]) (n := 1) (Nat.le_of_ble_eq_true rfl)
  rw [lg_entry_eq]
  generalize (lg_sl ([.int x]) ++ List.replicate (1 - (lg_sl ([.int x])).length) Slot.unset).toArray = ls at hl ⊢
  have hl : lv_has ls 1 [(0, .int x)] := hl
  refine lv_iload_n hx hb dX1_negate_0 rfl (lv_at hl 0 rfl) ?_
  refine lv_bipush (v := 16) hx hb dX1_negate_1 (by decide) ?_
  refine lv_ixor hx hb dX1_negate_3 ?_
  exact W.iret (v := x ^^^ 16) hx hb hr (fun t ht hW => ⟨x ^^^ 16, rfl, by first | (simp only [pu_neg, ↓reduceIte, not_true_eq_false, not_false_eq_true, and_true, true_and, and_false, false_and, or_true, true_or, or_false, false_or, and_self, or_self]; done) | (simp [pu_neg]; done) | (simp_all [pu_neg]; done), ht⟩) (fun q hq => by cases hq) dX1_negate_4
set_option maxHeartbeats 4000000 in
set_option maxRecDepth 100000 in
theorem ctX1_signedQuarters (l : Launch) (x : Int32) : Met l yX1_signedQuarters wsX1_signedQuarters ({ frames := 0, cells := 0, slots := 0, locals := 0 }) (va_Pc [.int x] (fun _ => True)) (vp_Si (fun r => r = pu_sq x)) 0 0 (fun _ => False) := by
  refine Met.ofW (cc := cX1_signedQuarters) (maxL := 3) (ret := (some .int)) (by decide) rfl ?_
  intro p e s m args below meth c s₁ B hml hv
  obtain ⟨rfl, -⟩ := hv
  have hx := B.exec
  have hb := B.bytes
  have hr := B.returns
  have hts := atoms_spec (ws := wsX1_signedQuarters) B.pre
  have hown : s.vm.findClass RX1 = some m.cls := findClass_of_methodNamed B.named
  have hlocks := B.notSynchronized
  have hl := lv_entry ([.int x]) (n := 3) (Nat.le_of_ble_eq_true rfl)
  rw [lg_entry_eq]
  generalize (lg_sl ([.int x]) ++ List.replicate (3 - (lg_sl ([.int x])).length) Slot.unset).toArray = ls at hl ⊢
  have hl : lv_has ls 3 [(0, .int x)] := hl
  refine lv_iload_n hx hb dX1_signedQuarters_0 rfl (lv_at hl 0 rfl) ?_
  refine lv_bipush (v := 15) hx hb dX1_signedQuarters_1 (by decide) ?_
  refine lv_iand hx hb dX1_signedQuarters_3 ?_
  refine lv_istore_n (lv' := [(1, .int (x &&& 15)), (0, .int x)]) hx hb dX1_signedQuarters_4 rfl hl (by decide) rfl (fun ls hl => ?_)
  refine lv_iload_n hx hb dX1_signedQuarters_5 rfl (lv_at hl 0 rfl) ?_
  refine lv_bipush (v := 8) hx hb dX1_signedQuarters_6 (by decide) ?_
  refine lv_icmp_ge (tgt := 15) hx hb dX1_signedQuarters_8 (by decide) (fun h1 => ?_) (fun h1 => ?_)
  · skip
    have h1b := Int32.not_lt.mpr h1
    refine lv_iconst (v := 2) hx hb dX1_signedQuarters_15 (by decide) ?_
    refine lv_iload_n hx hb dX1_signedQuarters_16 rfl (lv_at hl 0 rfl) ?_
    refine lv_imul hx hb dX1_signedQuarters_17 ?_
    refine lv_bipush (v := 8) hx hb dX1_signedQuarters_18 (by decide) ?_
    refine lv_isub hx hb dX1_signedQuarters_20 ?_
    refine lv_istore_n (lv' := [(2, .int ((2 * (x &&& 15)) - 8)), (1, .int (x &&& 15)), (0, .int x)]) hx hb dX1_signedQuarters_21 rfl hl (by decide) rfl (fun ls hl => ?_)
    refine lv_iload_n hx hb dX1_signedQuarters_22 rfl (lv_at hl 2 rfl) ?_
    refine lv_bipush (v := 16) hx hb dX1_signedQuarters_23 (by decide) ?_
    refine lv_iand hx hb dX1_signedQuarters_25 ?_
    refine lv_if_ne (tgt := 33) hx hb dX1_signedQuarters_26 (by decide) (fun h2 => ?_) (fun h2 => ?_)
    · skip
      refine lv_iload_n hx hb dX1_signedQuarters_33 rfl (lv_at hl 0 rfl) ?_
      refine lv_ineg hx hb dX1_signedQuarters_34 ?_
      exact W.iret (v := -((2 * (x &&& 15)) - 8)) hx hb hr (fun t ht hW => ⟨-((2 * (x &&& 15)) - 8), rfl, by first | (simp only [pu_sq, pu_mag, h1, h1b, h2, ↓reduceIte, not_true_eq_false, not_false_eq_true, and_true, true_and, and_false, false_and, or_true, true_or, or_false, false_or, and_self, or_self]; done) | (simp [pu_sq, pu_mag, h1, h1b, h2]; done) | (simp_all [pu_sq, pu_mag]; done), ht⟩) (fun q hq => by cases hq) dX1_signedQuarters_35
    · skip
      refine lv_iload_n hx hb dX1_signedQuarters_29 rfl (lv_at hl 0 rfl) ?_
      refine lv_goto (tgt := 35) hx hb dX1_signedQuarters_30 (by decide) ?_
      exact W.iret (v := (2 * (x &&& 15)) - 8) hx hb hr (fun t ht hW => ⟨(2 * (x &&& 15)) - 8, rfl, by first | (simp only [pu_sq, pu_mag, h1, h1b, h2, ↓reduceIte, not_true_eq_false, not_false_eq_true, and_true, true_and, and_false, false_and, or_true, true_or, or_false, false_or, and_self, or_self]; done) | (simp [pu_sq, pu_mag, h1, h1b, h2]; done) | (simp_all [pu_sq, pu_mag]; done), ht⟩) (fun q hq => by cases hq) dX1_signedQuarters_35
  · skip
    have h1b := Int32.not_le.mp h1
    refine lv_iload_n hx hb dX1_signedQuarters_11 rfl (lv_at hl 0 rfl) ?_
    refine lv_goto (tgt := 21) hx hb dX1_signedQuarters_12 (by decide) ?_
    refine lv_istore_n (lv' := [(2, .int (x &&& 15)), (1, .int (x &&& 15)), (0, .int x)]) hx hb dX1_signedQuarters_21 rfl hl (by decide) rfl (fun ls hl => ?_)
    refine lv_iload_n hx hb dX1_signedQuarters_22 rfl (lv_at hl 2 rfl) ?_
    refine lv_bipush (v := 16) hx hb dX1_signedQuarters_23 (by decide) ?_
    refine lv_iand hx hb dX1_signedQuarters_25 ?_
    refine lv_if_ne (tgt := 33) hx hb dX1_signedQuarters_26 (by decide) (fun h3 => ?_) (fun h3 => ?_)
    · skip
      refine lv_iload_n hx hb dX1_signedQuarters_33 rfl (lv_at hl 0 rfl) ?_
      refine lv_ineg hx hb dX1_signedQuarters_34 ?_
      exact W.iret (v := -(x &&& 15)) hx hb hr (fun t ht hW => ⟨-(x &&& 15), rfl, by first | (simp only [pu_sq, pu_mag, h1, h1b, h3, ↓reduceIte, not_true_eq_false, not_false_eq_true, and_true, true_and, and_false, false_and, or_true, true_or, or_false, false_or, and_self, or_self]; done) | (simp [pu_sq, pu_mag, h1, h1b, h3]; done) | (simp_all [pu_sq, pu_mag]; done), ht⟩) (fun q hq => by cases hq) dX1_signedQuarters_35
    · skip
      refine lv_iload_n hx hb dX1_signedQuarters_29 rfl (lv_at hl 0 rfl) ?_
      refine lv_goto (tgt := 35) hx hb dX1_signedQuarters_30 (by decide) ?_
      exact W.iret (v := x &&& 15) hx hb hr (fun t ht hW => ⟨x &&& 15, rfl, by first | (simp only [pu_sq, pu_mag, h1, h1b, h3, ↓reduceIte, not_true_eq_false, not_false_eq_true, and_true, true_and, and_false, false_and, or_true, true_or, or_false, false_or, and_self, or_self]; done) | (simp [pu_sq, pu_mag, h1, h1b, h3]; done) | (simp_all [pu_sq, pu_mag]; done), ht⟩) (fun q hq => by cases hq) dX1_signedQuarters_35
set_option maxHeartbeats 4000000 in
set_option maxRecDepth 100000 in
theorem ctX1_rounded (l : Launch) (s0 : Int32) : Met l yX1_rounded wsX1_rounded ({ frames := 0, cells := 0, slots := 0, locals := 0 }) (va_Pc [.int s0] (fun _ => True)) (vp_Si (fun r => r = pu_rnd s0)) 0 0 (fun _ => False) := by
  refine Met.ofW (cc := cX1_rounded) (maxL := 5) (ret := (some .int)) (by decide) rfl ?_
  intro p e s m args below meth c s₁ B hml hv
  obtain ⟨rfl, -⟩ := hv
  have hx := B.exec
  have hb := B.bytes
  have hr := B.returns
  have hts := atoms_spec (ws := wsX1_rounded) B.pre
  have hown : s.vm.findClass RX1 = some m.cls := findClass_of_methodNamed B.named
  have hlocks := B.notSynchronized
  have hl := lv_entry ([.int s0]) (n := 5) (Nat.le_of_ble_eq_true rfl)
  rw [lg_entry_eq]
  generalize (lg_sl ([.int s0]) ++ List.replicate (5 - (lg_sl ([.int s0])).length) Slot.unset).toArray = ls at hl ⊢
  have hl : lv_has ls 5 [(0, .int s0)] := hl
  refine lv_iload_n hx hb dX1_rounded_0 rfl (lv_at hl 0 rfl) ?_
  refine lv_bipush (v := 32) hx hb dX1_rounded_1 (by decide) ?_
  refine lv_icmp_ge (tgt := 10) hx hb dX1_rounded_3 (by decide) (fun h1 => ?_) (fun h1 => ?_)
  · skip
    have h1b := Int32.not_lt.mpr h1
    refine lv_iconst (v := 0) hx hb dX1_rounded_10 (by decide) ?_
    refine lv_istore_n (lv' := [(1, .int 0), (0, .int s0)]) hx hb dX1_rounded_11 rfl hl (by decide) rfl (fun ls hl => ?_)
    refine lv_iload_n hx hb dX1_rounded_12 rfl (lv_at hl 0 rfl) ?_
    refine lv_if_eq (tgt := 20) hx hb dX1_rounded_13 (by decide) (fun _ => ?_) (fun h2 => absurd (by decide) h2)
    refine lv_bipush (v := 8) hx hb dX1_rounded_20 (by decide) ?_
    refine lv_istore_n (lv' := [(2, .int 8), (1, .int 0), (0, .int s0)]) hx hb dX1_rounded_22 rfl hl (by decide) rfl (fun ls hl => ?_)
    refine lv_iload_n hx hb dX1_rounded_23 rfl (lv_at hl 2 rfl) ?_
    refine lv_iload_n hx hb dX1_rounded_24 rfl (lv_at hl 0 rfl) ?_
    refine lv_idiv hx hb dX1_rounded_25 (by decide) ?_
    refine lv_iload_n hx hb dX1_rounded_26 rfl (lv_at hl 1 rfl) ?_
    refine lv_if_eq (tgt := 34) hx hb dX1_rounded_27 (by decide) (fun _ => ?_) (fun h3 => absurd (by decide) h3)
    refine lv_iconst (v := 4) hx hb dX1_rounded_34 (by decide) ?_
    refine lv_iadd hx hb dX1_rounded_35 ?_
    refine lv_istore_n (lv' := [(3, .int ((s0 / 8) + 4)), (2, .int 8), (1, .int 0), (0, .int s0)]) hx hb dX1_rounded_36 rfl hl (by decide) rfl (fun ls hl => ?_)
    refine lv_iconst (v := 2) hx hb dX1_rounded_37 (by decide) ?_
    refine lv_iload_n hx hb dX1_rounded_38 rfl (lv_at hl 3 rfl) ?_
    refine lv_iload_n hx hb dX1_rounded_39 rfl (lv_at hl 1 rfl) ?_
    refine lv_irem hx hb dX1_rounded_40 (by decide) ?_
    refine lv_imul hx hb dX1_rounded_41 ?_
    refine lv_istore (lv' := [(4, .int (2 * (s0 - s0 / 8 * 8))), (3, .int ((s0 / 8) + 4)), (2, .int 8), (1, .int 0), (0, .int s0)]) hx hb dX1_rounded_42 hl (by decide) rfl (fun ls hl => ?_)
    refine lv_iload hx hb dX1_rounded_44 (lv_at hl 0 rfl) ?_
    refine lv_iload_n hx hb dX1_rounded_46 rfl (lv_at hl 2 rfl) ?_
    refine lv_icmp_gt (tgt := 63) hx hb dX1_rounded_47 (by decide) (fun h4 => ?_) (fun h4 => ?_)
    · skip
      have h4b := Int32.not_le.mpr h4
      refine lv_iinc (k := 1) (v := (s0 / 8) + 4 + 1) (lv' := [(3, .int ((s0 / 8) + 4 + 1)), (4, .int (2 * (s0 - s0 / 8 * 8))), (2, .int 8), (1, .int 0), (0, .int s0)]) hx hb dX1_rounded_63 hl rfl (rfl) (by decide) rfl (fun ls hl => ?_)
      refine lv_iload_n hx hb dX1_rounded_66 rfl (lv_at hl 0 rfl) ?_
      refine lv_bipush (v := 12) hx hb dX1_rounded_67 (by decide) ?_
      refine lv_icmp_ge (tgt := 76) hx hb dX1_rounded_69 (by decide) (fun h5 => ?_) (fun h5 => ?_)
      · skip
        have h5b := Int32.not_lt.mpr h5
        refine lv_bipush (v := 12) hx hb dX1_rounded_76 (by decide) ?_
        exact W.iret (v := 12) hx hb hr (fun t ht hW => ⟨12, rfl, by first | (simp only [pu_rnd, pu_up, pu_num, pu_twi, pu_stp, show ¬ (4 : Int32) < 4 from by decide, show ¬ (8 : Int32) < 8 from by decide, h1, h1b, h4, h4b, h5, h5b, ↓reduceIte, not_true_eq_false, not_false_eq_true, and_true, true_and, and_false, false_and, or_true, true_or, or_false, false_or, and_self, or_self]; done) | (simp [pu_rnd, pu_up, pu_num, pu_twi, pu_stp, show ¬ (4 : Int32) < 4 from by decide, show ¬ (8 : Int32) < 8 from by decide, h1, h1b, h4, h4b, h5, h5b]; done) | (simp_all [pu_rnd, pu_up, pu_num, pu_twi, pu_stp, show ¬ (4 : Int32) < 4 from by decide, show ¬ (8 : Int32) < 8 from by decide]; done), ht⟩) (fun q hq => by cases hq) dX1_rounded_78
      · skip
        have h5b := Int32.not_le.mp h5
        refine lv_iload_n hx hb dX1_rounded_72 rfl (lv_at hl 0 rfl) ?_
        refine lv_goto (tgt := 78) hx hb dX1_rounded_73 (by decide) ?_
        exact W.iret (v := (s0 / 8) + 4 + 1) hx hb hr (fun t ht hW => ⟨(s0 / 8) + 4 + 1, rfl, by first | (simp only [pu_rnd, pu_up, pu_num, pu_twi, pu_stp, show ¬ (4 : Int32) < 4 from by decide, show ¬ (8 : Int32) < 8 from by decide, h1, h1b, h4, h4b, h5, h5b, ↓reduceIte, not_true_eq_false, not_false_eq_true, and_true, true_and, and_false, false_and, or_true, true_or, or_false, false_or, and_self, or_self]; done) | (simp [pu_rnd, pu_up, pu_num, pu_twi, pu_stp, show ¬ (4 : Int32) < 4 from by decide, show ¬ (8 : Int32) < 8 from by decide, h1, h1b, h4, h4b, h5, h5b]; done) | (simp_all [pu_rnd, pu_up, pu_num, pu_twi, pu_stp, show ¬ (4 : Int32) < 4 from by decide, show ¬ (8 : Int32) < 8 from by decide]; done), ht⟩) (fun q hq => by cases hq) dX1_rounded_78
    · skip
      have h4b := Int32.not_lt.mp h4
      refine lv_iload hx hb dX1_rounded_50 (lv_at hl 0 rfl) ?_
      refine lv_iload_n hx hb dX1_rounded_52 rfl (lv_at hl 2 rfl) ?_
      refine lv_icmp_ne (tgt := 66) hx hb dX1_rounded_53 (by decide) (fun h6 => ?_) (fun h6 => ?_)
      · skip
        refine lv_iload_n hx hb dX1_rounded_66 rfl (lv_at hl 1 rfl) ?_
        refine lv_bipush (v := 12) hx hb dX1_rounded_67 (by decide) ?_
        refine lv_icmp_ge (tgt := 76) hx hb dX1_rounded_69 (by decide) (fun h7 => ?_) (fun h7 => ?_)
        · skip
          have h7b := Int32.not_lt.mpr h7
          refine lv_bipush (v := 12) hx hb dX1_rounded_76 (by decide) ?_
          exact W.iret (v := 12) hx hb hr (fun t ht hW => ⟨12, rfl, by first | (simp only [pu_rnd, pu_up, pu_num, pu_twi, pu_stp, show ¬ (4 : Int32) < 4 from by decide, show ¬ (8 : Int32) < 8 from by decide, h1, h1b, h4, h4b, h6, h7, h7b, ↓reduceIte, not_true_eq_false, not_false_eq_true, and_true, true_and, and_false, false_and, or_true, true_or, or_false, false_or, and_self, or_self]; done) | (simp [pu_rnd, pu_up, pu_num, pu_twi, pu_stp, show ¬ (4 : Int32) < 4 from by decide, show ¬ (8 : Int32) < 8 from by decide, h1, h1b, h4, h4b, h6, h7, h7b]; done) | (simp_all [pu_rnd, pu_up, pu_num, pu_twi, pu_stp, show ¬ (4 : Int32) < 4 from by decide, show ¬ (8 : Int32) < 8 from by decide]; done), ht⟩) (fun q hq => by cases hq) dX1_rounded_78
        · skip
          have h7b := Int32.not_le.mp h7
          refine lv_iload_n hx hb dX1_rounded_72 rfl (lv_at hl 1 rfl) ?_
          refine lv_goto (tgt := 78) hx hb dX1_rounded_73 (by decide) ?_
          exact W.iret (v := (s0 / 8) + 4) hx hb hr (fun t ht hW => ⟨(s0 / 8) + 4, rfl, by first | (simp only [pu_rnd, pu_up, pu_num, pu_twi, pu_stp, show ¬ (4 : Int32) < 4 from by decide, show ¬ (8 : Int32) < 8 from by decide, h1, h1b, h4, h4b, h6, h7, h7b, ↓reduceIte, not_true_eq_false, not_false_eq_true, and_true, true_and, and_false, false_and, or_true, true_or, or_false, false_or, and_self, or_self]; done) | (simp [pu_rnd, pu_up, pu_num, pu_twi, pu_stp, show ¬ (4 : Int32) < 4 from by decide, show ¬ (8 : Int32) < 8 from by decide, h1, h1b, h4, h4b, h6, h7, h7b]; done) | (simp_all [pu_rnd, pu_up, pu_num, pu_twi, pu_stp, show ¬ (4 : Int32) < 4 from by decide, show ¬ (8 : Int32) < 8 from by decide]; done), ht⟩) (fun q hq => by cases hq) dX1_rounded_78
      · skip
        refine lv_iload_n hx hb dX1_rounded_56 rfl (lv_at hl 1 rfl) ?_
        refine lv_iconst (v := 2) hx hb dX1_rounded_57 (by decide) ?_
        refine lv_irem hx hb dX1_rounded_58 (by decide) ?_
        refine lv_iconst (v := 1) hx hb dX1_rounded_59 (by decide) ?_
        refine lv_icmp_ne (tgt := 66) hx hb dX1_rounded_60 (by decide) (fun h8 => ?_) (fun h8 => ?_)
        · skip
          refine lv_iload_n hx hb dX1_rounded_66 rfl (lv_at hl 1 rfl) ?_
          refine lv_bipush (v := 12) hx hb dX1_rounded_67 (by decide) ?_
          refine lv_icmp_ge (tgt := 76) hx hb dX1_rounded_69 (by decide) (fun h9 => ?_) (fun h9 => ?_)
          · skip
            have h9b := Int32.not_lt.mpr h9
            refine lv_bipush (v := 12) hx hb dX1_rounded_76 (by decide) ?_
            exact W.iret (v := 12) hx hb hr (fun t ht hW => ⟨12, rfl, by first | (simp only [pu_rnd, pu_up, pu_num, pu_twi, pu_stp, show ¬ (4 : Int32) < 4 from by decide, show ¬ (8 : Int32) < 8 from by decide, h1, h1b, h4, h4b, h6, h8, h9, h9b, ↓reduceIte, not_true_eq_false, not_false_eq_true, and_true, true_and, and_false, false_and, or_true, true_or, or_false, false_or, and_self, or_self]; done) | (simp [pu_rnd, pu_up, pu_num, pu_twi, pu_stp, show ¬ (4 : Int32) < 4 from by decide, show ¬ (8 : Int32) < 8 from by decide, h1, h1b, h4, h4b, h6, h8, h9, h9b]; done) | (simp_all [pu_rnd, pu_up, pu_num, pu_twi, pu_stp, show ¬ (4 : Int32) < 4 from by decide, show ¬ (8 : Int32) < 8 from by decide]; done), ht⟩) (fun q hq => by cases hq) dX1_rounded_78
          · skip
            have h9b := Int32.not_le.mp h9
            refine lv_iload_n hx hb dX1_rounded_72 rfl (lv_at hl 1 rfl) ?_
            refine lv_goto (tgt := 78) hx hb dX1_rounded_73 (by decide) ?_
            exact W.iret (v := (s0 / 8) + 4) hx hb hr (fun t ht hW => ⟨(s0 / 8) + 4, rfl, by first | (simp only [pu_rnd, pu_up, pu_num, pu_twi, pu_stp, show ¬ (4 : Int32) < 4 from by decide, show ¬ (8 : Int32) < 8 from by decide, h1, h1b, h4, h4b, h6, h8, h9, h9b, ↓reduceIte, not_true_eq_false, not_false_eq_true, and_true, true_and, and_false, false_and, or_true, true_or, or_false, false_or, and_self, or_self]; done) | (simp [pu_rnd, pu_up, pu_num, pu_twi, pu_stp, show ¬ (4 : Int32) < 4 from by decide, show ¬ (8 : Int32) < 8 from by decide, h1, h1b, h4, h4b, h6, h8, h9, h9b]; done) | (simp_all [pu_rnd, pu_up, pu_num, pu_twi, pu_stp, show ¬ (4 : Int32) < 4 from by decide, show ¬ (8 : Int32) < 8 from by decide]; done), ht⟩) (fun q hq => by cases hq) dX1_rounded_78
        · skip
          refine lv_iinc (k := 1) (v := (s0 / 8) + 4 + 1) (lv' := [(3, .int ((s0 / 8) + 4 + 1)), (4, .int (2 * (s0 - s0 / 8 * 8))), (2, .int 8), (1, .int 0), (0, .int s0)]) hx hb dX1_rounded_63 hl rfl (rfl) (by decide) rfl (fun ls hl => ?_)
          refine lv_iload_n hx hb dX1_rounded_66 rfl (lv_at hl 0 rfl) ?_
          refine lv_bipush (v := 12) hx hb dX1_rounded_67 (by decide) ?_
          refine lv_icmp_ge (tgt := 76) hx hb dX1_rounded_69 (by decide) (fun h10 => ?_) (fun h10 => ?_)
          · skip
            have h10b := Int32.not_lt.mpr h10
            refine lv_bipush (v := 12) hx hb dX1_rounded_76 (by decide) ?_
            exact W.iret (v := 12) hx hb hr (fun t ht hW => ⟨12, rfl, by first | (simp only [pu_rnd, pu_up, pu_num, pu_twi, pu_stp, show ¬ (4 : Int32) < 4 from by decide, show ¬ (8 : Int32) < 8 from by decide, h1, h1b, h4, h4b, h6, h8, h10, h10b, ↓reduceIte, not_true_eq_false, not_false_eq_true, and_true, true_and, and_false, false_and, or_true, true_or, or_false, false_or, and_self, or_self]; done) | (simp [pu_rnd, pu_up, pu_num, pu_twi, pu_stp, show ¬ (4 : Int32) < 4 from by decide, show ¬ (8 : Int32) < 8 from by decide, h1, h1b, h4, h4b, h6, h8, h10, h10b]; done) | (simp_all [pu_rnd, pu_up, pu_num, pu_twi, pu_stp, show ¬ (4 : Int32) < 4 from by decide, show ¬ (8 : Int32) < 8 from by decide]; done), ht⟩) (fun q hq => by cases hq) dX1_rounded_78
          · skip
            have h10b := Int32.not_le.mp h10
            refine lv_iload_n hx hb dX1_rounded_72 rfl (lv_at hl 0 rfl) ?_
            refine lv_goto (tgt := 78) hx hb dX1_rounded_73 (by decide) ?_
            exact W.iret (v := (s0 / 8) + 4 + 1) hx hb hr (fun t ht hW => ⟨(s0 / 8) + 4 + 1, rfl, by first | (simp only [pu_rnd, pu_up, pu_num, pu_twi, pu_stp, show ¬ (4 : Int32) < 4 from by decide, show ¬ (8 : Int32) < 8 from by decide, h1, h1b, h4, h4b, h6, h8, h10, h10b, ↓reduceIte, not_true_eq_false, not_false_eq_true, and_true, true_and, and_false, false_and, or_true, true_or, or_false, false_or, and_self, or_self]; done) | (simp [pu_rnd, pu_up, pu_num, pu_twi, pu_stp, show ¬ (4 : Int32) < 4 from by decide, show ¬ (8 : Int32) < 8 from by decide, h1, h1b, h4, h4b, h6, h8, h10, h10b]; done) | (simp_all [pu_rnd, pu_up, pu_num, pu_twi, pu_stp, show ¬ (4 : Int32) < 4 from by decide, show ¬ (8 : Int32) < 8 from by decide]; done), ht⟩) (fun q hq => by cases hq) dX1_rounded_78
  · skip
    have h1b := Int32.not_le.mp h1
    refine lv_iconst (v := 1) hx hb dX1_rounded_6 (by decide) ?_
    refine lv_goto (tgt := 11) hx hb dX1_rounded_7 (by decide) ?_
    refine lv_istore_n (lv' := [(1, .int 1), (0, .int s0)]) hx hb dX1_rounded_11 rfl hl (by decide) rfl (fun ls hl => ?_)
    refine lv_iload_n hx hb dX1_rounded_12 rfl (lv_at hl 0 rfl) ?_
    refine lv_if_eq (tgt := 20) hx hb dX1_rounded_13 (by decide) (fun h11 => absurd h11 (by decide)) (fun _ => ?_)
    refine lv_iconst (v := 4) hx hb dX1_rounded_16 (by decide) ?_
    refine lv_goto (tgt := 22) hx hb dX1_rounded_17 (by decide) ?_
    refine lv_istore_n (lv' := [(2, .int 4), (1, .int 1), (0, .int s0)]) hx hb dX1_rounded_22 rfl hl (by decide) rfl (fun ls hl => ?_)
    refine lv_iload_n hx hb dX1_rounded_23 rfl (lv_at hl 2 rfl) ?_
    refine lv_iload_n hx hb dX1_rounded_24 rfl (lv_at hl 0 rfl) ?_
    refine lv_idiv hx hb dX1_rounded_25 (by decide) ?_
    refine lv_iload_n hx hb dX1_rounded_26 rfl (lv_at hl 1 rfl) ?_
    refine lv_if_eq (tgt := 34) hx hb dX1_rounded_27 (by decide) (fun h12 => absurd h12 (by decide)) (fun _ => ?_)
    refine lv_iconst (v := 0) hx hb dX1_rounded_30 (by decide) ?_
    refine lv_goto (tgt := 35) hx hb dX1_rounded_31 (by decide) ?_
    refine lv_iadd hx hb dX1_rounded_35 ?_
    refine lv_istore_n (lv' := [(3, .int ((s0 / 4) + 0)), (2, .int 4), (1, .int 1), (0, .int s0)]) hx hb dX1_rounded_36 rfl hl (by decide) rfl (fun ls hl => ?_)
    refine lv_iconst (v := 2) hx hb dX1_rounded_37 (by decide) ?_
    refine lv_iload_n hx hb dX1_rounded_38 rfl (lv_at hl 3 rfl) ?_
    refine lv_iload_n hx hb dX1_rounded_39 rfl (lv_at hl 1 rfl) ?_
    refine lv_irem hx hb dX1_rounded_40 (by decide) ?_
    refine lv_imul hx hb dX1_rounded_41 ?_
    refine lv_istore (lv' := [(4, .int (2 * (s0 - s0 / 4 * 4))), (3, .int ((s0 / 4) + 0)), (2, .int 4), (1, .int 1), (0, .int s0)]) hx hb dX1_rounded_42 hl (by decide) rfl (fun ls hl => ?_)
    refine lv_iload hx hb dX1_rounded_44 (lv_at hl 0 rfl) ?_
    refine lv_iload_n hx hb dX1_rounded_46 rfl (lv_at hl 2 rfl) ?_
    refine lv_icmp_gt (tgt := 63) hx hb dX1_rounded_47 (by decide) (fun h13 => ?_) (fun h13 => ?_)
    · skip
      have h13b := Int32.not_le.mpr h13
      refine lv_iinc (k := 1) (v := (s0 / 4) + 0 + 1) (lv' := [(3, .int ((s0 / 4) + 0 + 1)), (4, .int (2 * (s0 - s0 / 4 * 4))), (2, .int 4), (1, .int 1), (0, .int s0)]) hx hb dX1_rounded_63 hl rfl (rfl) (by decide) rfl (fun ls hl => ?_)
      refine lv_iload_n hx hb dX1_rounded_66 rfl (lv_at hl 0 rfl) ?_
      refine lv_bipush (v := 12) hx hb dX1_rounded_67 (by decide) ?_
      refine lv_icmp_ge (tgt := 76) hx hb dX1_rounded_69 (by decide) (fun h14 => ?_) (fun h14 => ?_)
      · skip
        have h14b := Int32.not_lt.mpr h14
        refine lv_bipush (v := 12) hx hb dX1_rounded_76 (by decide) ?_
        exact W.iret (v := 12) hx hb hr (fun t ht hW => ⟨12, rfl, by first | (simp only [pu_rnd, pu_up, pu_num, pu_twi, pu_stp, show ¬ (4 : Int32) < 4 from by decide, show ¬ (8 : Int32) < 8 from by decide, h1, h1b, h13, h13b, h14, h14b, ↓reduceIte, not_true_eq_false, not_false_eq_true, and_true, true_and, and_false, false_and, or_true, true_or, or_false, false_or, and_self, or_self]; done) | (simp [pu_rnd, pu_up, pu_num, pu_twi, pu_stp, show ¬ (4 : Int32) < 4 from by decide, show ¬ (8 : Int32) < 8 from by decide, h1, h1b, h13, h13b, h14, h14b]; done) | (simp_all [pu_rnd, pu_up, pu_num, pu_twi, pu_stp, show ¬ (4 : Int32) < 4 from by decide, show ¬ (8 : Int32) < 8 from by decide]; done), ht⟩) (fun q hq => by cases hq) dX1_rounded_78
      · skip
        have h14b := Int32.not_le.mp h14
        refine lv_iload_n hx hb dX1_rounded_72 rfl (lv_at hl 0 rfl) ?_
        refine lv_goto (tgt := 78) hx hb dX1_rounded_73 (by decide) ?_
        exact W.iret (v := (s0 / 4) + 0 + 1) hx hb hr (fun t ht hW => ⟨(s0 / 4) + 0 + 1, rfl, by first | (simp only [pu_rnd, pu_up, pu_num, pu_twi, pu_stp, show ¬ (4 : Int32) < 4 from by decide, show ¬ (8 : Int32) < 8 from by decide, h1, h1b, h13, h13b, h14, h14b, ↓reduceIte, not_true_eq_false, not_false_eq_true, and_true, true_and, and_false, false_and, or_true, true_or, or_false, false_or, and_self, or_self]; done) | (simp [pu_rnd, pu_up, pu_num, pu_twi, pu_stp, show ¬ (4 : Int32) < 4 from by decide, show ¬ (8 : Int32) < 8 from by decide, h1, h1b, h13, h13b, h14, h14b]; done) | (simp_all [pu_rnd, pu_up, pu_num, pu_twi, pu_stp, show ¬ (4 : Int32) < 4 from by decide, show ¬ (8 : Int32) < 8 from by decide]; done), ht⟩) (fun q hq => by cases hq) dX1_rounded_78
    · skip
      have h13b := Int32.not_lt.mp h13
      refine lv_iload hx hb dX1_rounded_50 (lv_at hl 0 rfl) ?_
      refine lv_iload_n hx hb dX1_rounded_52 rfl (lv_at hl 2 rfl) ?_
      refine lv_icmp_ne (tgt := 66) hx hb dX1_rounded_53 (by decide) (fun h15 => ?_) (fun h15 => ?_)
      · skip
        refine lv_iload_n hx hb dX1_rounded_66 rfl (lv_at hl 1 rfl) ?_
        refine lv_bipush (v := 12) hx hb dX1_rounded_67 (by decide) ?_
        refine lv_icmp_ge (tgt := 76) hx hb dX1_rounded_69 (by decide) (fun h16 => ?_) (fun h16 => ?_)
        · skip
          have h16b := Int32.not_lt.mpr h16
          refine lv_bipush (v := 12) hx hb dX1_rounded_76 (by decide) ?_
          exact W.iret (v := 12) hx hb hr (fun t ht hW => ⟨12, rfl, by first | (simp only [pu_rnd, pu_up, pu_num, pu_twi, pu_stp, show ¬ (4 : Int32) < 4 from by decide, show ¬ (8 : Int32) < 8 from by decide, h1, h1b, h13, h13b, h15, h16, h16b, ↓reduceIte, not_true_eq_false, not_false_eq_true, and_true, true_and, and_false, false_and, or_true, true_or, or_false, false_or, and_self, or_self]; done) | (simp [pu_rnd, pu_up, pu_num, pu_twi, pu_stp, show ¬ (4 : Int32) < 4 from by decide, show ¬ (8 : Int32) < 8 from by decide, h1, h1b, h13, h13b, h15, h16, h16b]; done) | (simp_all [pu_rnd, pu_up, pu_num, pu_twi, pu_stp, show ¬ (4 : Int32) < 4 from by decide, show ¬ (8 : Int32) < 8 from by decide]; done), ht⟩) (fun q hq => by cases hq) dX1_rounded_78
        · skip
          have h16b := Int32.not_le.mp h16
          refine lv_iload_n hx hb dX1_rounded_72 rfl (lv_at hl 1 rfl) ?_
          refine lv_goto (tgt := 78) hx hb dX1_rounded_73 (by decide) ?_
          exact W.iret (v := (s0 / 4) + 0) hx hb hr (fun t ht hW => ⟨(s0 / 4) + 0, rfl, by first | (simp only [pu_rnd, pu_up, pu_num, pu_twi, pu_stp, show ¬ (4 : Int32) < 4 from by decide, show ¬ (8 : Int32) < 8 from by decide, h1, h1b, h13, h13b, h15, h16, h16b, ↓reduceIte, not_true_eq_false, not_false_eq_true, and_true, true_and, and_false, false_and, or_true, true_or, or_false, false_or, and_self, or_self]; done) | (simp [pu_rnd, pu_up, pu_num, pu_twi, pu_stp, show ¬ (4 : Int32) < 4 from by decide, show ¬ (8 : Int32) < 8 from by decide, h1, h1b, h13, h13b, h15, h16, h16b]; done) | (simp_all [pu_rnd, pu_up, pu_num, pu_twi, pu_stp, show ¬ (4 : Int32) < 4 from by decide, show ¬ (8 : Int32) < 8 from by decide]; done), ht⟩) (fun q hq => by cases hq) dX1_rounded_78
      · skip
        refine lv_iload_n hx hb dX1_rounded_56 rfl (lv_at hl 1 rfl) ?_
        refine lv_iconst (v := 2) hx hb dX1_rounded_57 (by decide) ?_
        refine lv_irem hx hb dX1_rounded_58 (by decide) ?_
        refine lv_iconst (v := 1) hx hb dX1_rounded_59 (by decide) ?_
        refine lv_icmp_ne (tgt := 66) hx hb dX1_rounded_60 (by decide) (fun h17 => ?_) (fun h17 => ?_)
        · skip
          refine lv_iload_n hx hb dX1_rounded_66 rfl (lv_at hl 1 rfl) ?_
          refine lv_bipush (v := 12) hx hb dX1_rounded_67 (by decide) ?_
          refine lv_icmp_ge (tgt := 76) hx hb dX1_rounded_69 (by decide) (fun h18 => ?_) (fun h18 => ?_)
          · skip
            have h18b := Int32.not_lt.mpr h18
            refine lv_bipush (v := 12) hx hb dX1_rounded_76 (by decide) ?_
            exact W.iret (v := 12) hx hb hr (fun t ht hW => ⟨12, rfl, by first | (simp only [pu_rnd, pu_up, pu_num, pu_twi, pu_stp, show ¬ (4 : Int32) < 4 from by decide, show ¬ (8 : Int32) < 8 from by decide, h1, h1b, h13, h13b, h15, h17, h18, h18b, ↓reduceIte, not_true_eq_false, not_false_eq_true, and_true, true_and, and_false, false_and, or_true, true_or, or_false, false_or, and_self, or_self]; done) | (simp [pu_rnd, pu_up, pu_num, pu_twi, pu_stp, show ¬ (4 : Int32) < 4 from by decide, show ¬ (8 : Int32) < 8 from by decide, h1, h1b, h13, h13b, h15, h17, h18, h18b]; done) | (simp_all [pu_rnd, pu_up, pu_num, pu_twi, pu_stp, show ¬ (4 : Int32) < 4 from by decide, show ¬ (8 : Int32) < 8 from by decide]; done), ht⟩) (fun q hq => by cases hq) dX1_rounded_78
          · skip
            have h18b := Int32.not_le.mp h18
            refine lv_iload_n hx hb dX1_rounded_72 rfl (lv_at hl 1 rfl) ?_
            refine lv_goto (tgt := 78) hx hb dX1_rounded_73 (by decide) ?_
            exact W.iret (v := (s0 / 4) + 0) hx hb hr (fun t ht hW => ⟨(s0 / 4) + 0, rfl, by first | (simp only [pu_rnd, pu_up, pu_num, pu_twi, pu_stp, show ¬ (4 : Int32) < 4 from by decide, show ¬ (8 : Int32) < 8 from by decide, h1, h1b, h13, h13b, h15, h17, h18, h18b, ↓reduceIte, not_true_eq_false, not_false_eq_true, and_true, true_and, and_false, false_and, or_true, true_or, or_false, false_or, and_self, or_self]; done) | (simp [pu_rnd, pu_up, pu_num, pu_twi, pu_stp, show ¬ (4 : Int32) < 4 from by decide, show ¬ (8 : Int32) < 8 from by decide, h1, h1b, h13, h13b, h15, h17, h18, h18b]; done) | (simp_all [pu_rnd, pu_up, pu_num, pu_twi, pu_stp, show ¬ (4 : Int32) < 4 from by decide, show ¬ (8 : Int32) < 8 from by decide]; done), ht⟩) (fun q hq => by cases hq) dX1_rounded_78
        · skip
          refine lv_iinc (k := 1) (v := (s0 / 4) + 0 + 1) (lv' := [(3, .int ((s0 / 4) + 0 + 1)), (4, .int (2 * (s0 - s0 / 4 * 4))), (2, .int 4), (1, .int 1), (0, .int s0)]) hx hb dX1_rounded_63 hl rfl (rfl) (by decide) rfl (fun ls hl => ?_)
          refine lv_iload_n hx hb dX1_rounded_66 rfl (lv_at hl 0 rfl) ?_
          refine lv_bipush (v := 12) hx hb dX1_rounded_67 (by decide) ?_
          refine lv_icmp_ge (tgt := 76) hx hb dX1_rounded_69 (by decide) (fun h19 => ?_) (fun h19 => ?_)
          · skip
            have h19b := Int32.not_lt.mpr h19
            refine lv_bipush (v := 12) hx hb dX1_rounded_76 (by decide) ?_
            exact W.iret (v := 12) hx hb hr (fun t ht hW => ⟨12, rfl, by first | (simp only [pu_rnd, pu_up, pu_num, pu_twi, pu_stp, show ¬ (4 : Int32) < 4 from by decide, show ¬ (8 : Int32) < 8 from by decide, h1, h1b, h13, h13b, h15, h17, h19, h19b, ↓reduceIte, not_true_eq_false, not_false_eq_true, and_true, true_and, and_false, false_and, or_true, true_or, or_false, false_or, and_self, or_self]; done) | (simp [pu_rnd, pu_up, pu_num, pu_twi, pu_stp, show ¬ (4 : Int32) < 4 from by decide, show ¬ (8 : Int32) < 8 from by decide, h1, h1b, h13, h13b, h15, h17, h19, h19b]; done) | (simp_all [pu_rnd, pu_up, pu_num, pu_twi, pu_stp, show ¬ (4 : Int32) < 4 from by decide, show ¬ (8 : Int32) < 8 from by decide]; done), ht⟩) (fun q hq => by cases hq) dX1_rounded_78
          · skip
            have h19b := Int32.not_le.mp h19
            refine lv_iload_n hx hb dX1_rounded_72 rfl (lv_at hl 0 rfl) ?_
            refine lv_goto (tgt := 78) hx hb dX1_rounded_73 (by decide) ?_
            exact W.iret (v := (s0 / 4) + 0 + 1) hx hb hr (fun t ht hW => ⟨(s0 / 4) + 0 + 1, rfl, by first | (simp only [pu_rnd, pu_up, pu_num, pu_twi, pu_stp, show ¬ (4 : Int32) < 4 from by decide, show ¬ (8 : Int32) < 8 from by decide, h1, h1b, h13, h13b, h15, h17, h19, h19b, ↓reduceIte, not_true_eq_false, not_false_eq_true, and_true, true_and, and_false, false_and, or_true, true_or, or_false, false_or, and_self, or_self]; done) | (simp [pu_rnd, pu_up, pu_num, pu_twi, pu_stp, show ¬ (4 : Int32) < 4 from by decide, show ¬ (8 : Int32) < 8 from by decide, h1, h1b, h13, h13b, h15, h17, h19, h19b]; done) | (simp_all [pu_rnd, pu_up, pu_num, pu_twi, pu_stp, show ¬ (4 : Int32) < 4 from by decide, show ¬ (8 : Int32) < 8 from by decide]; done), ht⟩) (fun q hq => by cases hq) dX1_rounded_78
set_option maxHeartbeats 4000000 in
set_option maxRecDepth 100000 in
theorem ctX1_isEqual (l : Launch) (x y : Int32) : Met l yX1_isEqual wsX1_isEqual ({ frames := 1, cells := 0, slots := 0, locals := 20 }) (va_Pc [.int x, .int y] (fun _ => True)) (vp_Si (fun r => r = pu_eq x y)) 0 0 (fun _ => False) := by
  refine Met.ofW (cc := cX1_isEqual) (maxL := 2) (ret := (some .boolean)) (by decide) rfl ?_
  intro p e s m args below meth c s₁ B hml hv
  obtain ⟨rfl, -⟩ := hv
  have hx := B.exec
  have hb := B.bytes
  have hr := B.returns
  have hts := atoms_spec (ws := wsX1_isEqual) B.pre
  have hown : s.vm.findClass RX1 = some m.cls := findClass_of_methodNamed B.named
  have hlocks := B.notSynchronized
  have hl := lv_entry ([.int x, .int y]) (n := 2) (Nat.le_of_ble_eq_true rfl)
  rw [lg_entry_eq]
  generalize (lg_sl ([.int x, .int y]) ++ List.replicate (2 - (lg_sl ([.int x, .int y])).length) Slot.unset).toArray = ls at hl ⊢
  have hl : lv_has ls 2 [(0, .int x), (1, .int y)] := hl
  refine lv_iload_n hx hb dX1_isEqual_0 rfl (lv_at hl 0 rfl) ?_
  refine vp_callSi (W.runS (As := [.int x]) (rest := []) ⟨hx, hb, hml, hown, hts⟩ (ctX1_isNan l x) (va_cwS 1 hts (wA_wsS wm_ml_X1_22 wm_st_X1_isNan wm_in_X1 wm_cd_X1_isNan) rfl rfl rfl (by decide +kernel) ⟨Nat.le_of_ble_eq_true rfl, Nat.le_of_ble_eq_true rfl⟩) ⟨fun a U g mk q => q, fun U hU hW => ⟨rfl, trivial⟩⟩ rfl rfl hl.1 rfl (lv_room (Nat.le_of_ble_eq_true rfl)) dX1_isEqual_1 ⟨Nat.zero_le _, Nat.zero_le _⟩) (fun r1 er1 => ?_)
  subst er1
  refine lv_if_ne (tgt := 37) hx hb dX1_isEqual_4 (by decide) (fun h2 => ?_) (fun h2 => ?_)
  · skip
    refine lv_iconst (v := 0) hx hb dX1_isEqual_37 (by decide) ?_
    exact W.zret (v := 0) hx hb hr (rfl) (fun t ht hW => ⟨0, rfl, by first | (simp only [pu_eq, h2, ↓reduceIte, not_true_eq_false, not_false_eq_true, and_true, true_and, and_false, false_and, or_true, true_or, or_false, false_or, and_self, or_self]; done) | (simp [pu_eq, h2]; done) | (simp_all [pu_eq]; done), ht⟩) (fun q hq => by cases hq) dX1_isEqual_38
  · skip
    refine lv_iload_n hx hb dX1_isEqual_7 rfl (lv_at hl 1 rfl) ?_
    refine vp_callSi (W.runS (As := [.int y]) (rest := []) ⟨hx, hb, hml, hown, hts⟩ (ctX1_isNan l y) (va_cwS 1 hts (wA_wsS wm_ml_X1_22 wm_st_X1_isNan wm_in_X1 wm_cd_X1_isNan) rfl rfl rfl (by decide +kernel) ⟨Nat.le_of_ble_eq_true rfl, Nat.le_of_ble_eq_true rfl⟩) ⟨fun a U g mk q => q, fun U hU hW => ⟨rfl, trivial⟩⟩ rfl rfl hl.1 rfl (lv_room (Nat.le_of_ble_eq_true rfl)) dX1_isEqual_8 ⟨Nat.zero_le _, Nat.zero_le _⟩) (fun r3 er3 => ?_)
    subst er3
    refine lv_if_ne (tgt := 37) hx hb dX1_isEqual_11 (by decide) (fun h4 => ?_) (fun h4 => ?_)
    · skip
      refine lv_iconst (v := 0) hx hb dX1_isEqual_37 (by decide) ?_
      exact W.zret (v := 0) hx hb hr (rfl) (fun t ht hW => ⟨0, rfl, by first | (simp only [pu_eq, h2, h4, ↓reduceIte, not_true_eq_false, not_false_eq_true, and_true, true_and, and_false, false_and, or_true, true_or, or_false, false_or, and_self, or_self]; done) | (simp [pu_eq, h2, h4]; done) | (simp_all [pu_eq]; done), ht⟩) (fun q hq => by cases hq) dX1_isEqual_38
    · skip
      refine lv_iload_n hx hb dX1_isEqual_14 rfl (lv_at hl 0 rfl) ?_
      refine lv_iload_n hx hb dX1_isEqual_15 rfl (lv_at hl 1 rfl) ?_
      refine lv_icmp_eq (tgt := 33) hx hb dX1_isEqual_16 (by decide) (fun h5 => ?_) (fun h5 => ?_)
      · skip
        refine lv_iconst (v := 1) hx hb dX1_isEqual_33 (by decide) ?_
        refine lv_goto (tgt := 38) hx hb dX1_isEqual_34 (by decide) ?_
        exact W.zret (v := 1) hx hb hr (rfl) (fun t ht hW => ⟨1, rfl, by first | (simp only [pu_eq, h2, h4, h5, ↓reduceIte, not_true_eq_false, not_false_eq_true, and_true, true_and, and_false, false_and, or_true, true_or, or_false, false_or, and_self, or_self]; done) | (simp [pu_eq, h2, h4, h5]; done) | (simp_all [pu_eq]; done), ht⟩) (fun q hq => by cases hq) dX1_isEqual_38
      · skip
        refine lv_iload_n hx hb dX1_isEqual_19 rfl (lv_at hl 0 rfl) ?_
        refine vp_callSi (W.runS (As := [.int x]) (rest := []) ⟨hx, hb, hml, hown, hts⟩ (ctX1_isZero l x) (va_cwS 1 hts (wA_wsS wm_ml_X1_36 wm_st_X1_isZero wm_in_X1 wm_cd_X1_isZero) rfl rfl rfl (by decide +kernel) ⟨Nat.le_of_ble_eq_true rfl, Nat.le_of_ble_eq_true rfl⟩) ⟨fun a U g mk q => q, fun U hU hW => ⟨rfl, trivial⟩⟩ rfl rfl hl.1 rfl (lv_room (Nat.le_of_ble_eq_true rfl)) dX1_isEqual_20 ⟨Nat.zero_le _, Nat.zero_le _⟩) (fun r6 er6 => ?_)
        subst er6
        refine lv_if_eq (tgt := 37) hx hb dX1_isEqual_23 (by decide) (fun h7 => ?_) (fun h7 => ?_)
        · skip
          refine lv_iconst (v := 0) hx hb dX1_isEqual_37 (by decide) ?_
          exact W.zret (v := 0) hx hb hr (rfl) (fun t ht hW => ⟨0, rfl, by first | (simp only [pu_eq, h2, h4, h5, h7, ↓reduceIte, not_true_eq_false, not_false_eq_true, and_true, true_and, and_false, false_and, or_true, true_or, or_false, false_or, and_self, or_self]; done) | (simp [pu_eq, h2, h4, h5, h7]; done) | (simp_all [pu_eq]; done), ht⟩) (fun q hq => by cases hq) dX1_isEqual_38
        · skip
          refine lv_iload_n hx hb dX1_isEqual_26 rfl (lv_at hl 1 rfl) ?_
          refine vp_callSi (W.runS (As := [.int y]) (rest := []) ⟨hx, hb, hml, hown, hts⟩ (ctX1_isZero l y) (va_cwS 1 hts (wA_wsS wm_ml_X1_36 wm_st_X1_isZero wm_in_X1 wm_cd_X1_isZero) rfl rfl rfl (by decide +kernel) ⟨Nat.le_of_ble_eq_true rfl, Nat.le_of_ble_eq_true rfl⟩) ⟨fun a U g mk q => q, fun U hU hW => ⟨rfl, trivial⟩⟩ rfl rfl hl.1 rfl (lv_room (Nat.le_of_ble_eq_true rfl)) dX1_isEqual_27 ⟨Nat.zero_le _, Nat.zero_le _⟩) (fun r8 er8 => ?_)
          subst er8
          refine lv_if_eq (tgt := 37) hx hb dX1_isEqual_30 (by decide) (fun h9 => ?_) (fun h9 => ?_)
          · skip
            refine lv_iconst (v := 0) hx hb dX1_isEqual_37 (by decide) ?_
            exact W.zret (v := 0) hx hb hr (rfl) (fun t ht hW => ⟨0, rfl, by first | (simp only [pu_eq, h2, h4, h5, h7, h9, ↓reduceIte, not_true_eq_false, not_false_eq_true, and_true, true_and, and_false, false_and, or_true, true_or, or_false, false_or, and_self, or_self]; done) | (simp [pu_eq, h2, h4, h5, h7, h9]; done) | (simp_all [pu_eq]; done), ht⟩) (fun q hq => by cases hq) dX1_isEqual_38
          · skip
            refine lv_iconst (v := 1) hx hb dX1_isEqual_33 (by decide) ?_
            refine lv_goto (tgt := 38) hx hb dX1_isEqual_34 (by decide) ?_
            exact W.zret (v := 1) hx hb hr (rfl) (fun t ht hW => ⟨1, rfl, by first | (simp only [pu_eq, h2, h4, h5, h7, h9, ↓reduceIte, not_true_eq_false, not_false_eq_true, and_true, true_and, and_false, false_and, or_true, true_or, or_false, false_or, and_self, or_self]; done) | (simp [pu_eq, h2, h4, h5, h7, h9]; done) | (simp_all [pu_eq]; done), ht⟩) (fun q hq => by cases hq) dX1_isEqual_38
set_option maxHeartbeats 4000000 in
set_option maxRecDepth 100000 in
theorem ctX1_isLess (l : Launch) (x y : Int32) : Met l yX1_isLess wsX1_isLess ({ frames := 1, cells := 0, slots := 0, locals := 22 }) (va_Pc [.int x, .int y] (fun _ => True)) (vp_Si (fun r => r = pu_les x y)) 0 0 (fun _ => False) := by
  refine Met.ofW (cc := cX1_isLess) (maxL := 2) (ret := (some .boolean)) (by decide) rfl ?_
  intro p e s m args below meth c s₁ B hml hv
  obtain ⟨rfl, -⟩ := hv
  have hx := B.exec
  have hb := B.bytes
  have hr := B.returns
  have hts := atoms_spec (ws := wsX1_isLess) B.pre
  have hown : s.vm.findClass RX1 = some m.cls := findClass_of_methodNamed B.named
  have hlocks := B.notSynchronized
  have hl := lv_entry ([.int x, .int y]) (n := 2) (Nat.le_of_ble_eq_true rfl)
  rw [lg_entry_eq]
  generalize (lg_sl ([.int x, .int y]) ++ List.replicate (2 - (lg_sl ([.int x, .int y])).length) Slot.unset).toArray = ls at hl ⊢
  have hl : lv_has ls 2 [(0, .int x), (1, .int y)] := hl
  refine lv_iload_n hx hb dX1_isLess_0 rfl (lv_at hl 0 rfl) ?_
  refine vp_callSi (W.runS (As := [.int x]) (rest := []) ⟨hx, hb, hml, hown, hts⟩ (ctX1_isNan l x) (va_cwS 1 hts (wA_wsS wm_ml_X1_22 wm_st_X1_isNan wm_in_X1 wm_cd_X1_isNan) rfl rfl rfl (by decide +kernel) ⟨Nat.le_of_ble_eq_true rfl, Nat.le_of_ble_eq_true rfl⟩) ⟨fun a U g mk q => q, fun U hU hW => ⟨rfl, trivial⟩⟩ rfl rfl hl.1 rfl (lv_room (Nat.le_of_ble_eq_true rfl)) dX1_isLess_1 ⟨Nat.zero_le _, Nat.zero_le _⟩) (fun r1 er1 => ?_)
  subst er1
  refine lv_if_ne (tgt := 29) hx hb dX1_isLess_4 (by decide) (fun h2 => ?_) (fun h2 => ?_)
  · skip
    refine lv_iconst (v := 0) hx hb dX1_isLess_29 (by decide) ?_
    exact W.zret (v := 0) hx hb hr (rfl) (fun t ht hW => ⟨0, rfl, by first | (simp only [pu_les, h2, ↓reduceIte, not_true_eq_false, not_false_eq_true, and_true, true_and, and_false, false_and, or_true, true_or, or_false, false_or, and_self, or_self]; done) | (simp [pu_les, h2]; done) | (simp_all [pu_les]; done), ht⟩) (fun q hq => by cases hq) dX1_isLess_30
  · skip
    refine lv_iload_n hx hb dX1_isLess_7 rfl (lv_at hl 1 rfl) ?_
    refine vp_callSi (W.runS (As := [.int y]) (rest := []) ⟨hx, hb, hml, hown, hts⟩ (ctX1_isNan l y) (va_cwS 1 hts (wA_wsS wm_ml_X1_22 wm_st_X1_isNan wm_in_X1 wm_cd_X1_isNan) rfl rfl rfl (by decide +kernel) ⟨Nat.le_of_ble_eq_true rfl, Nat.le_of_ble_eq_true rfl⟩) ⟨fun a U g mk q => q, fun U hU hW => ⟨rfl, trivial⟩⟩ rfl rfl hl.1 rfl (lv_room (Nat.le_of_ble_eq_true rfl)) dX1_isLess_8 ⟨Nat.zero_le _, Nat.zero_le _⟩) (fun r3 er3 => ?_)
    subst er3
    refine lv_if_ne (tgt := 29) hx hb dX1_isLess_11 (by decide) (fun h4 => ?_) (fun h4 => ?_)
    · skip
      refine lv_iconst (v := 0) hx hb dX1_isLess_29 (by decide) ?_
      exact W.zret (v := 0) hx hb hr (rfl) (fun t ht hW => ⟨0, rfl, by first | (simp only [pu_les, h2, h4, ↓reduceIte, not_true_eq_false, not_false_eq_true, and_true, true_and, and_false, false_and, or_true, true_or, or_false, false_or, and_self, or_self]; done) | (simp [pu_les, h2, h4]; done) | (simp_all [pu_les]; done), ht⟩) (fun q hq => by cases hq) dX1_isLess_30
    · skip
      refine lv_iload_n hx hb dX1_isLess_14 rfl (lv_at hl 0 rfl) ?_
      refine vp_callSi (W.runS (As := [.int x]) (rest := []) ⟨hx, hb, hml, hown, hts⟩ (ctX1_signedQuarters l x) (va_cwS 1 hts (wA_wsS wm_ml_X1_39 wm_st_X1_signedQuarters wm_in_X1 wm_cd_X1_signedQuarters) rfl rfl rfl (by decide +kernel) ⟨Nat.le_of_ble_eq_true rfl, Nat.le_of_ble_eq_true rfl⟩) ⟨fun a U g mk q => q, fun U hU hW => ⟨rfl, trivial⟩⟩ rfl rfl hl.1 rfl (lv_room (Nat.le_of_ble_eq_true rfl)) dX1_isLess_15 ⟨Nat.zero_le _, Nat.zero_le _⟩) (fun r5 er5 => ?_)
      subst er5
      refine lv_iload_n hx hb dX1_isLess_18 rfl (lv_at hl 1 rfl) ?_
      refine vp_callSi (W.runS (As := [.int y]) (rest := [.int (pu_sq x)]) ⟨hx, hb, hml, hown, hts⟩ (ctX1_signedQuarters l y) (va_cwS 1 hts (wA_wsS wm_ml_X1_39 wm_st_X1_signedQuarters wm_in_X1 wm_cd_X1_signedQuarters) rfl rfl rfl (by decide +kernel) ⟨Nat.le_of_ble_eq_true rfl, Nat.le_of_ble_eq_true rfl⟩) ⟨fun a U g mk q => q, fun U hU hW => ⟨rfl, trivial⟩⟩ rfl rfl hl.1 rfl (lv_room (Nat.le_of_ble_eq_true rfl)) dX1_isLess_19 ⟨Nat.zero_le _, Nat.zero_le _⟩) (fun r6 er6 => ?_)
      subst er6
      refine lv_icmp_ge (tgt := 29) hx hb dX1_isLess_22 (by decide) (fun h7 => ?_) (fun h7 => ?_)
      · skip
        have h7b := Int32.not_lt.mpr h7
        refine lv_iconst (v := 0) hx hb dX1_isLess_29 (by decide) ?_
        exact W.zret (v := 0) hx hb hr (rfl) (fun t ht hW => ⟨0, rfl, by first | (simp only [pu_les, h2, h4, h7, h7b, ↓reduceIte, not_true_eq_false, not_false_eq_true, and_true, true_and, and_false, false_and, or_true, true_or, or_false, false_or, and_self, or_self]; done) | (simp [pu_les, h2, h4, h7, h7b]; done) | (simp_all [pu_les]; done), ht⟩) (fun q hq => by cases hq) dX1_isLess_30
      · skip
        have h7b := Int32.not_le.mp h7
        refine lv_iconst (v := 1) hx hb dX1_isLess_25 (by decide) ?_
        refine lv_goto (tgt := 30) hx hb dX1_isLess_26 (by decide) ?_
        exact W.zret (v := 1) hx hb hr (rfl) (fun t ht hW => ⟨1, rfl, by first | (simp only [pu_les, h2, h4, h7, h7b, ↓reduceIte, not_true_eq_false, not_false_eq_true, and_true, true_and, and_false, false_and, or_true, true_or, or_false, false_or, and_self, or_self]; done) | (simp [pu_les, h2, h4, h7, h7b]; done) | (simp_all [pu_les]; done), ht⟩) (fun q hq => by cases hq) dX1_isLess_30
