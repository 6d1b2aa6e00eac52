/-! a loop: the states a of its head, told by I; each round comes to a state that is less -/
section XWA
variable {p : Program} {l : Launch} {e : Env} {R : Room} {s : State} {m : MethodId} {args : Array Value} {below : List Frame} {meth : Method} {c : Code} {cells slots : Nat} {Q Q' : State → Prop}
theorem xw_loop {pc : Nat} {σ : Type} (μ : σ → Nat) (I : σ → Array Slot → Heap → List Loc → Prop)
    (step : ∀ (a : σ) (ls : Array Slot) (H : Heap) (locs : List Loc), I a ls H locs → (∀ (b : σ) (ls' : Array Slot) (H' : Heap) (locs' : List Loc), I b ls' H' locs' → μ b < μ a → W p l e R s m args below meth c H' locs' cells slots Q (F0 m pc ls' [])) → W p l e R s m args below meth c H locs cells slots Q (F0 m pc ls [])) :
    ∀ (a : σ) (ls : Array Slot) (H : Heap) (locs : List Loc), I a ls H locs → W p l e R s m args below meth c H locs cells slots Q (F0 m pc ls []) := by
  have key : ∀ (n : Nat) (a : σ), μ a = n → ∀ (ls : Array Slot) (H : Heap) (locs : List Loc), I a ls H locs → W p l e R s m args below meth c H locs cells slots Q (F0 m pc ls []) := by
    intro n
    induction n using Nat.strongRecOn with
    | _ n ih =>
      intro a ha ls H locs hI
      exact step a ls H locs hI fun b ls' H' locs' hI' hlt => ih (μ b) (by omega) b rfl ls' H' locs' hI'
  exact fun a ls H locs hI => key (μ a) a rfl ls H locs hI
theorem xw_mono {H : Heap} {locs : List Loc} {g : JFrame} (h : ∀ t, Q t → Q' t) (k : W p l e R s m args below meth c H locs cells slots Q g) : W p l e R s m args below meth c H locs cells slots Q' g := by
  intro T hT X
  obtain ⟨t, a, b⟩ := k T hT X
  exact ⟨t, a, h t b⟩
end XWA
theorem pm_rst_y {s best k A B : Int32} (hA : pm_ab (s - 4 * pm_q k) = A) (hB : pm_ab (s - 4 * pm_q best) = B) (h : A < B ∨ (A = B ∧ k - k / 2 * 2 = 0)) : pm_rst s best k = k := by unfold pm_rst; rw [hA, hB, if_pos h]
theorem pm_rst_n {s best k A B : Int32} (hA : pm_ab (s - 4 * pm_q k) = A) (hB : pm_ab (s - 4 * pm_q best) = B) (h : ¬ (A < B ∨ (A = B ∧ k - k / 2 * 2 = 0))) : pm_rst s best k = best := by unfold pm_rst; rw [hA, hB, if_neg h]
def pm_tru (b : Int32) : Int32 := if b = 0 then 0 else 1
def pm_nms (k : Int32) : Int32 := if k = 9 then 3 else if k < 4 then 1 else if k < 14 then 2 else if 17 < k then 2 else 1
def pu_isn (x : Int32) : Int32 := if x < 0 then 0 else if 31 < x then 0 else 1
def pu_iso (k : Int32) : Int32 := if k < 2 then 0 else if 16 < k then 0 else if k = 9 then 0 else 1
def px_knd (k : Int32) : Int32 := if k < 0 then 0 else if 19 < k then 0 else 1
def px_tru (k : Int32) : Int32 := if k < 10 then 0 else if 19 < k then 0 else 1
def px_s1 (k : Int32) : Int32 := if k = 0 then 1 else if k = 1 then 2 else if k = 9 ∨ k = 17 ∨ k = 18 ∨ k = 19 then 4 else 3
def px_s2 (k : Int32) : Int32 := if ¬ k < 4 ∧ ¬ 13 < k then 3 else if k = 18 ∨ k = 19 then 4 else 0
def px_s3 (k : Int32) : Int32 := if k = 9 then 3 else 0
def px_ter (s : Int32) : Int32 := if s = 3 ∨ s = 4 then 1 else 0
set_option maxHeartbeats 4000000 in
set_option maxRecDepth 100000 in
theorem ctX5_nan (l : Launch) (x : Int32) : Met l yX5_nan wsX5_nan ({ frames := 0, cells := 0, slots := 0, locals := 0 }) (va_Pc [.int x] (fun _ => True)) (vp_Si (fun r => r = pu_nan x)) 0 0 (fun _ => False) := by
  refine Met.ofW (cc := cX5_nan) (maxL := 1) (ret := (some .boolean)) (by decide) rfl ?_
  intro p e s m args below meth c s₁ B hml hv
  obtain ⟨rfl, -⟩ := hv
  have hx := B.exec
  have hb := B.bytes
  have hr := B.returns
  have hts := atoms_spec (ws := wsX5_nan) B.pre
  have hown : s.vm.findClass RX5 = some m.cls := findClass_of_methodNamed B.named
  have hlocks := B.notSynchronized
  have hl := lv_entry ([.int x]) (n := 1) (Nat.le_of_ble_eq_true rfl)
  rw [lg_entry_eq]
  generalize (lg_sl ([.int x]) ++ List.replicate (1 - (lg_sl ([.int x])).length) Slot.unset).toArray = ls at hl ⊢
  have hl : lv_has ls 1 [(0, .int x)] := hl
  refine lv_iload_n hx hb dX5_nan_0 rfl (lv_at hl 0 rfl) ?_
  refine lv_bipush (v := 15) hx hb dX5_nan_1 (by decide) ?_
  refine lv_iand hx hb dX5_nan_3 ?_
  refine lv_bipush (v := 12) hx hb dX5_nan_4 (by decide) ?_
  refine lv_icmp_le (tgt := 13) hx hb dX5_nan_6 (by decide) (fun h1 => ?_) (fun h1 => ?_)
  · skip
    have h1b := Int32.not_lt.mpr h1
    refine lv_iconst (v := 0) hx hb dX5_nan_13 (by decide) ?_
    exact W.zret (v := 0) hx hb hr (rfl) (fun t ht hW => ⟨0, rfl, by first | (simp only [pu_nan, h1, h1b, ↓reduceIte, not_true_eq_false, not_false_eq_true, and_true, true_and, and_false, false_and, or_true, true_or, or_false, false_or, and_self, or_self]; done) | (simp [pu_nan, h1, h1b]; done) | (simp_all [pu_nan]; done), ht⟩) (fun q hq => by cases hq) dX5_nan_14
  · skip
    have h1b := Int32.not_le.mp h1
    refine lv_iconst (v := 1) hx hb dX5_nan_9 (by decide) ?_
    refine lv_goto (tgt := 14) hx hb dX5_nan_10 (by decide) ?_
    exact W.zret (v := 1) hx hb hr (rfl) (fun t ht hW => ⟨1, rfl, by first | (simp only [pu_nan, h1, h1b, ↓reduceIte, not_true_eq_false, not_false_eq_true, and_true, true_and, and_false, false_and, or_true, true_or, or_false, false_or, and_self, or_self]; done) | (simp [pu_nan, h1, h1b]; done) | (simp_all [pu_nan]; done), ht⟩) (fun q hq => by cases hq) dX5_nan_14
set_option maxHeartbeats 4000000 in
set_option maxRecDepth 100000 in
theorem ctX5_infinite (l : Launch) (x : Int32) : Met l yX5_infinite wsX5_infinite ({ frames := 0, cells := 0, slots := 0, locals := 0 }) (va_Pc [.int x] (fun _ => True)) (vp_Si (fun r => r = pu_inf x)) 0 0 (fun _ => False) := by
  refine Met.ofW (cc := cX5_infinite) (maxL := 1) (ret := (some .boolean)) (by decide) rfl ?_
  intro p e s m args below meth c s₁ B hml hv
  obtain ⟨rfl, -⟩ := hv
  have hx := B.exec
  have hb := B.bytes
  have hr := B.returns
  have hts := atoms_spec (ws := wsX5_infinite) B.pre
  have hown : s.vm.findClass RX5 = some m.cls := findClass_of_methodNamed B.named
  have hlocks := B.notSynchronized
  have hl := lv_entry ([.int x]) (n := 1) (Nat.le_of_ble_eq_true rfl)
  rw [lg_entry_eq]
  generalize (lg_sl ([.int x]) ++ List.replicate (1 - (lg_sl ([.int x])).length) Slot.unset).toArray = ls at hl ⊢
  have hl : lv_has ls 1 [(0, .int x)] := hl
  refine lv_iload_n hx hb dX5_infinite_0 rfl (lv_at hl 0 rfl) ?_
  refine lv_bipush (v := 15) hx hb dX5_infinite_1 (by decide) ?_
  refine lv_iand hx hb dX5_infinite_3 ?_
  refine lv_bipush (v := 12) hx hb dX5_infinite_4 (by decide) ?_
  refine lv_icmp_ne (tgt := 13) hx hb dX5_infinite_6 (by decide) (fun h1 => ?_) (fun h1 => ?_)
  · skip
    refine lv_iconst (v := 0) hx hb dX5_infinite_13 (by decide) ?_
    exact W.zret (v := 0) hx hb hr (rfl) (fun t ht hW => ⟨0, rfl, by first | (simp only [pu_inf, h1, ↓reduceIte, not_true_eq_false, not_false_eq_true, and_true, true_and, and_false, false_and, or_true, true_or, or_false, false_or, and_self, or_self]; done) | (simp [pu_inf, h1]; done) | (simp_all [pu_inf]; done), ht⟩) (fun q hq => by cases hq) dX5_infinite_14
  · skip
    refine lv_iconst (v := 1) hx hb dX5_infinite_9 (by decide) ?_
    refine lv_goto (tgt := 14) hx hb dX5_infinite_10 (by decide) ?_
    exact W.zret (v := 1) hx hb hr (rfl) (fun t ht hW => ⟨1, rfl, by first | (simp only [pu_inf, h1, ↓reduceIte, not_true_eq_false, not_false_eq_true, and_true, true_and, and_false, false_and, or_true, true_or, or_false, false_or, and_self, or_self]; done) | (simp [pu_inf, h1]; done) | (simp_all [pu_inf]; done), ht⟩) (fun q hq => by cases hq) dX5_infinite_14
set_option maxHeartbeats 4000000 in
set_option maxRecDepth 100000 in
theorem ctX5_zero (l : Launch) (x : Int32) : Met l yX5_zero wsX5_zero ({ frames := 0, cells := 0, slots := 0, locals := 0 }) (va_Pc [.int x] (fun _ => True)) (vp_Si (fun r => r = pu_zer x)) 0 0 (fun _ => False) := by
  refine Met.ofW (cc := cX5_zero) (maxL := 1) (ret := (some .boolean)) (by decide) rfl ?_
  intro p e s m args below meth c s₁ B hml hv
  obtain ⟨rfl, -⟩ := hv
  have hx := B.exec
  have hb := B.bytes
  have hr := B.returns
  have hts := atoms_spec (ws := wsX5_zero) B.pre
  have hown : s.vm.findClass RX5 = some m.cls := findClass_of_methodNamed B.named
  have hlocks := B.notSynchronized
  have hl := lv_entry ([.int x]) (n := 1) (Nat.le_of_ble_eq_true rfl)
  rw [lg_entry_eq]
  generalize (lg_sl ([.int x]) ++ List.replicate (1 - (lg_sl ([.int x])).length) Slot.unset).toArray = ls at hl ⊢
  have hl : lv_has ls 1 [(0, .int x)] := hl
  refine lv_iload_n hx hb dX5_zero_0 rfl (lv_at hl 0 rfl) ?_
  refine lv_bipush (v := 15) hx hb dX5_zero_1 (by decide) ?_
  refine lv_iand hx hb dX5_zero_3 ?_
  refine lv_if_ne (tgt := 11) hx hb dX5_zero_4 (by decide) (fun h1 => ?_) (fun h1 => ?_)
  · skip
    refine lv_iconst (v := 0) hx hb dX5_zero_11 (by decide) ?_
    exact W.zret (v := 0) hx hb hr (rfl) (fun t ht hW => ⟨0, rfl, by first | (simp only [pu_zer, h1, ↓reduceIte, not_true_eq_false, not_false_eq_true, and_true, true_and, and_false, false_and, or_true, true_or, or_false, false_or, and_self, or_self]; done) | (simp [pu_zer, h1]; done) | (simp_all [pu_zer]; done), ht⟩) (fun q hq => by cases hq) dX5_zero_12
  · skip
    refine lv_iconst (v := 1) hx hb dX5_zero_7 (by decide) ?_
    refine lv_goto (tgt := 12) hx hb dX5_zero_8 (by decide) ?_
    exact W.zret (v := 1) hx hb hr (rfl) (fun t ht hW => ⟨1, rfl, by first | (simp only [pu_zer, h1, ↓reduceIte, not_true_eq_false, not_false_eq_true, and_true, true_and, and_false, false_and, or_true, true_or, or_false, false_or, and_self, or_self]; done) | (simp [pu_zer, h1]; done) | (simp_all [pu_zer]; done), ht⟩) (fun q hq => by cases hq) dX5_zero_12
set_option maxHeartbeats 4000000 in
set_option maxRecDepth 100000 in
theorem ctX5_quarters (l : Launch) (k : Int32) : Met l yX5_quarters wsX5_quarters ({ frames := 0, cells := 0, slots := 0, locals := 0 }) (va_Pc [.int k] (fun _ => True)) (vp_Si (fun r => r = pm_q k)) 0 0 (fun _ => False) := by
  refine Met.ofW (cc := cX5_quarters) (maxL := 1) (ret := (some .int)) (by decide) rfl ?_
  intro p e s m args below meth c s₁ B hml hv
  obtain ⟨rfl, -⟩ := hv
  have hx := B.exec
  have hb := B.bytes
  have hr := B.returns
  have hts := atoms_spec (ws := wsX5_quarters) B.pre
  have hown : s.vm.findClass RX5 = some m.cls := findClass_of_methodNamed B.named
  have hlocks := B.notSynchronized
  have hl := lv_entry ([.int k]) (n := 1) (Nat.le_of_ble_eq_true rfl)
  rw [lg_entry_eq]
  generalize (lg_sl ([.int k]) ++ List.replicate (1 - (lg_sl ([.int k])).length) Slot.unset).toArray = ls at hl ⊢
  have hl : lv_has ls 1 [(0, .int k)] := hl
  refine lv_iload_n hx hb dX5_quarters_0 rfl (lv_at hl 0 rfl) ?_
  refine lv_bipush (v := 8) hx hb dX5_quarters_1 (by decide) ?_
  refine lv_icmp_ge (tgt := 10) hx hb dX5_quarters_3 (by decide) (fun h1 => ?_) (fun h1 => ?_)
  · skip
    have h1b := Int32.not_lt.mpr h1
    refine lv_iload_n hx hb dX5_quarters_10 rfl (lv_at hl 0 rfl) ?_
    refine lv_bipush (v := 12) hx hb dX5_quarters_11 (by decide) ?_
    refine lv_icmp_ge (tgt := 25) hx hb dX5_quarters_13 (by decide) (fun h2 => ?_) (fun h2 => ?_)
    · skip
      have h2b := Int32.not_lt.mpr h2
      refine lv_bipush (v := 16) hx hb dX5_quarters_25 (by decide) ?_
      exact W.iret (v := 16) hx hb hr (fun t ht hW => ⟨16, rfl, by first | (simp only [pm_q, h1, h1b, h2, h2b, ↓reduceIte, not_true_eq_false, not_false_eq_true, and_true, true_and, and_false, false_and, or_true, true_or, or_false, false_or, and_self, or_self]; done) | (simp [pm_q, h1, h1b, h2, h2b]; done) | (simp_all [pm_q]; done), ht⟩) (fun q hq => by cases hq) dX5_quarters_27
    · skip
      have h2b := Int32.not_le.mp h2
      refine lv_iconst (v := 2) hx hb dX5_quarters_16 (by decide) ?_
      refine lv_iload_n hx hb dX5_quarters_17 rfl (lv_at hl 0 rfl) ?_
      refine lv_imul hx hb dX5_quarters_18 ?_
      refine lv_bipush (v := 8) hx hb dX5_quarters_19 (by decide) ?_
      refine lv_isub hx hb dX5_quarters_21 ?_
      refine lv_goto (tgt := 27) hx hb dX5_quarters_22 (by decide) ?_
      exact W.iret (v := (2 * k) - 8) hx hb hr (fun t ht hW => ⟨(2 * k) - 8, rfl, by first | (simp only [pm_q, h1, h1b, h2, h2b, ↓reduceIte, not_true_eq_false, not_false_eq_true, and_true, true_and, and_false, false_and, or_true, true_or, or_false, false_or, and_self, or_self]; done) | (simp [pm_q, h1, h1b, h2, h2b]; done) | (simp_all [pm_q]; done), ht⟩) (fun q hq => by cases hq) dX5_quarters_27
  · skip
    have h1b := Int32.not_le.mp h1
    refine lv_iload_n hx hb dX5_quarters_6 rfl (lv_at hl 0 rfl) ?_
    refine lv_goto (tgt := 27) hx hb dX5_quarters_7 (by decide) ?_
    exact W.iret (v := k) hx hb hr (fun t ht hW => ⟨k, rfl, by first | (simp only [pm_q, h1, h1b, ↓reduceIte, not_true_eq_false, not_false_eq_true, and_true, true_and, and_false, false_and, or_true, true_or, or_false, false_or, and_self, or_self]; done) | (simp [pm_q, h1, h1b]; done) | (simp_all [pm_q]; done), ht⟩) (fun q hq => by cases hq) dX5_quarters_27
set_option maxHeartbeats 4000000 in
set_option maxRecDepth 100000 in
theorem ctX5_out (l : Launch) (k n : Int32) : Met l yX5_out wsX5_out ({ frames := 0, cells := 0, slots := 0, locals := 0 }) (va_Pc [.int k, .int n] (fun _ => True)) (vp_Si (fun r => r = pm_out k n)) 0 0 (fun _ => False) := by
  refine Met.ofW (cc := cX5_out) (maxL := 2) (ret := (some .boolean)) (by decide) rfl ?_
  intro p e s m args below meth c s₁ B hml hv
  obtain ⟨rfl, -⟩ := hv
  have hx := B.exec
  have hb := B.bytes
  have hr := B.returns
  have hts := atoms_spec (ws := wsX5_out) B.pre
  have hown : s.vm.findClass RX5 = some m.cls := findClass_of_methodNamed B.named
  have hlocks := B.notSynchronized
  have hl := lv_entry ([.int k, .int n]) (n := 2) (Nat.le_of_ble_eq_true rfl)
  rw [lg_entry_eq]
  generalize (lg_sl ([.int k, .int n]) ++ List.replicate (2 - (lg_sl ([.int k, .int n])).length) Slot.unset).toArray = ls at hl ⊢
  have hl : lv_has ls 2 [(0, .int k), (1, .int n)] := hl
  refine lv_iload_n hx hb dX5_out_0 rfl (lv_at hl 0 rfl) ?_
  refine lv_if_lt (tgt := 9) hx hb dX5_out_1 (by decide) (fun h1 => ?_) (fun h1 => ?_)
  · skip
    have h1b := Int32.not_le.mpr h1
    refine lv_iconst (v := 1) hx hb dX5_out_9 (by decide) ?_
    refine lv_goto (tgt := 14) hx hb dX5_out_10 (by decide) ?_
    exact W.zret (v := 1) hx hb hr (rfl) (fun t ht hW => ⟨1, rfl, by first | (simp only [pm_out, h1, h1b, ↓reduceIte, not_true_eq_false, not_false_eq_true, and_true, true_and, and_false, false_and, or_true, true_or, or_false, false_or, and_self, or_self]; done) | (simp [pm_out, h1, h1b]; done) | (simp_all [pm_out]; done), ht⟩) (fun q hq => by cases hq) dX5_out_14
  · skip
    have h1b := Int32.not_lt.mp h1
    refine lv_iload_n hx hb dX5_out_4 rfl (lv_at hl 0 rfl) ?_
    refine lv_iload_n hx hb dX5_out_5 rfl (lv_at hl 1 rfl) ?_
    refine lv_icmp_lt (tgt := 13) hx hb dX5_out_6 (by decide) (fun h2 => ?_) (fun h2 => ?_)
    · skip
      have h2b := Int32.not_le.mpr h2
      refine lv_iconst (v := 0) hx hb dX5_out_13 (by decide) ?_
      exact W.zret (v := 0) hx hb hr (rfl) (fun t ht hW => ⟨0, rfl, by first | (simp only [pm_out, h1, h1b, h2, h2b, ↓reduceIte, not_true_eq_false, not_false_eq_true, and_true, true_and, and_false, false_and, or_true, true_or, or_false, false_or, and_self, or_self]; done) | (simp [pm_out, h1, h1b, h2, h2b]; done) | (simp_all [pm_out]; done), ht⟩) (fun q hq => by cases hq) dX5_out_14
    · skip
      have h2b := Int32.not_lt.mp h2
      refine lv_iconst (v := 1) hx hb dX5_out_9 (by decide) ?_
      refine lv_goto (tgt := 14) hx hb dX5_out_10 (by decide) ?_
      exact W.zret (v := 1) hx hb hr (rfl) (fun t ht hW => ⟨1, rfl, by first | (simp only [pm_out, h1, h1b, h2, h2b, ↓reduceIte, not_true_eq_false, not_false_eq_true, and_true, true_and, and_false, false_and, or_true, true_or, or_false, false_or, and_self, or_self]; done) | (simp [pm_out, h1, h1b, h2, h2b]; done) | (simp_all [pm_out]; done), ht⟩) (fun q hq => by cases hq) dX5_out_14
set_option maxHeartbeats 4000000 in
set_option maxRecDepth 100000 in
theorem ctX5_truth (l : Launch) (b : Int32) : Met l yX5_truth wsX5_truth ({ frames := 0, cells := 0, slots := 0, locals := 0 }) (va_Pc [.int b] (fun _ => True)) (vp_Si (fun r => r = pm_tru b)) 0 0 (fun _ => False) := by
  refine Met.ofW (cc := cX5_truth) (maxL := 1) (ret := (some .int)) (by decide) rfl ?_
  intro p e s m args below meth c s₁ B hml hv
  obtain ⟨rfl, -⟩ := hv
  have hx := B.exec
  have hb := B.bytes
  have hr := B.returns
  have hts := atoms_spec (ws := wsX5_truth) B.pre
  have hown : s.vm.findClass RX5 = some m.cls := findClass_of_methodNamed B.named
  have hlocks := B.notSynchronized
  have hl := lv_entry ([.int b]) (n := 1) (Nat.le_of_ble_eq_true rfl)
  rw [lg_entry_eq]
  generalize (lg_sl ([.int b]) ++ List.replicate (1 - (lg_sl ([.int b])).length) Slot.unset).toArray = ls at hl ⊢
  have hl : lv_has ls 1 [(0, .int b)] := hl
  refine lv_iload_n hx hb dX5_truth_0 rfl (lv_at hl 0 rfl) ?_
  refine lv_if_eq (tgt := 8) hx hb dX5_truth_1 (by decide) (fun h1 => ?_) (fun h1 => ?_)
  · skip
    refine lv_iconst (v := 0) hx hb dX5_truth_8 (by decide) ?_
    exact W.iret (v := 0) hx hb hr (fun t ht hW => ⟨0, rfl, by first | (simp only [pm_tru, h1, ↓reduceIte, not_true_eq_false, not_false_eq_true, and_true, true_and, and_false, false_and, or_true, true_or, or_false, false_or, and_self, or_self]; done) | (simp [pm_tru, h1]; done) | (simp_all [pm_tru]; done), ht⟩) (fun q hq => by cases hq) dX5_truth_9
  · skip
    refine lv_iconst (v := 1) hx hb dX5_truth_4 (by decide) ?_
    refine lv_goto (tgt := 9) hx hb dX5_truth_5 (by decide) ?_
    exact W.iret (v := 1) hx hb hr (fun t ht hW => ⟨1, rfl, by first | (simp only [pm_tru, h1, ↓reduceIte, not_true_eq_false, not_false_eq_true, and_true, true_and, and_false, false_and, or_true, true_or, or_false, false_or, and_self, or_self]; done) | (simp [pm_tru, h1]; done) | (simp_all [pm_tru]; done), ht⟩) (fun q hq => by cases hq) dX5_truth_9
set_option maxHeartbeats 4000000 in
set_option maxRecDepth 100000 in
theorem ctX5_names (l : Launch) (k : Int32) : Met l yX5_names wsX5_names ({ frames := 0, cells := 0, slots := 0, locals := 0 }) (va_Pc [.int k] (fun _ => True)) (vp_Si (fun r => r = pm_nms k)) 0 0 (fun _ => False) := by
  refine Met.ofW (cc := cX5_names) (maxL := 1) (ret := (some .int)) (by decide) rfl ?_
  intro p e s m args below meth c s₁ B hml hv
  obtain ⟨rfl, -⟩ := hv
  have hx := B.exec
  have hb := B.bytes
  have hr := B.returns
  have hts := atoms_spec (ws := wsX5_names) B.pre
  have hown : s.vm.findClass RX5 = some m.cls := findClass_of_methodNamed B.named
  have hlocks := B.notSynchronized
  have hl := lv_entry ([.int k]) (n := 1) (Nat.le_of_ble_eq_true rfl)
  rw [lg_entry_eq]
  generalize (lg_sl ([.int k]) ++ List.replicate (1 - (lg_sl ([.int k])).length) Slot.unset).toArray = ls at hl ⊢
  have hl : lv_has ls 1 [(0, .int k)] := hl
  refine lv_iload_n hx hb dX5_names_0 rfl (lv_at hl 0 rfl) ?_
  refine lv_bipush (v := 9) hx hb dX5_names_1 (by decide) ?_
  refine lv_icmp_ne (tgt := 10) hx hb dX5_names_3 (by decide) (fun h1 => ?_) (fun h1 => ?_)
  · skip
    refine lv_iload_n hx hb dX5_names_10 rfl (lv_at hl 0 rfl) ?_
    refine lv_iconst (v := 4) hx hb dX5_names_11 (by decide) ?_
    refine lv_icmp_lt (tgt := 27) hx hb dX5_names_12 (by decide) (fun h2 => ?_) (fun h2 => ?_)
    · skip
      have h2b := Int32.not_le.mpr h2
      refine lv_iconst (v := 1) hx hb dX5_names_27 (by decide) ?_
      refine lv_goto (tgt := 32) hx hb dX5_names_28 (by decide) ?_
      exact W.iret (v := 1) hx hb hr (fun t ht hW => ⟨1, rfl, by first | (simp only [pm_nms, h1, h2, h2b, ↓reduceIte, not_true_eq_false, not_false_eq_true, and_true, true_and, and_false, false_and, or_true, true_or, or_false, false_or, and_self, or_self]; done) | (simp [pm_nms, h1, h2, h2b]; done) | (simp_all [pm_nms]; done), ht⟩) (fun q hq => by cases hq) dX5_names_32
    · skip
      have h2b := Int32.not_lt.mp h2
      refine lv_iload_n hx hb dX5_names_15 rfl (lv_at hl 0 rfl) ?_
      refine lv_bipush (v := 14) hx hb dX5_names_16 (by decide) ?_
      refine lv_icmp_lt (tgt := 31) hx hb dX5_names_18 (by decide) (fun h3 => ?_) (fun h3 => ?_)
      · skip
        have h3b := Int32.not_le.mpr h3
        refine lv_iconst (v := 2) hx hb dX5_names_31 (by decide) ?_
        exact W.iret (v := 2) hx hb hr (fun t ht hW => ⟨2, rfl, by first | (simp only [pm_nms, h1, h2, h2b, h3, h3b, ↓reduceIte, not_true_eq_false, not_false_eq_true, and_true, true_and, and_false, false_and, or_true, true_or, or_false, false_or, and_self, or_self]; done) | (simp [pm_nms, h1, h2, h2b, h3, h3b]; done) | (simp_all [pm_nms]; done), ht⟩) (fun q hq => by cases hq) dX5_names_32
      · skip
        have h3b := Int32.not_lt.mp h3
        refine lv_iload_n hx hb dX5_names_21 rfl (lv_at hl 0 rfl) ?_
        refine lv_bipush (v := 17) hx hb dX5_names_22 (by decide) ?_
        refine lv_icmp_gt (tgt := 31) hx hb dX5_names_24 (by decide) (fun h4 => ?_) (fun h4 => ?_)
        · skip
          have h4b := Int32.not_le.mpr h4
          refine lv_iconst (v := 2) hx hb dX5_names_31 (by decide) ?_
          exact W.iret (v := 2) hx hb hr (fun t ht hW => ⟨2, rfl, by first | (simp only [pm_nms, h1, h2, h2b, h3, h3b, h4, h4b, ↓reduceIte, not_true_eq_false, not_false_eq_true, and_true, true_and, and_false, false_and, or_true, true_or, or_false, false_or, and_self, or_self]; done) | (simp [pm_nms, h1, h2, h2b, h3, h3b, h4, h4b]; done) | (simp_all [pm_nms]; done), ht⟩) (fun q hq => by cases hq) dX5_names_32
        · skip
          have h4b := Int32.not_lt.mp h4
          refine lv_iconst (v := 1) hx hb dX5_names_27 (by decide) ?_
          refine lv_goto (tgt := 32) hx hb dX5_names_28 (by decide) ?_
          exact W.iret (v := 1) hx hb hr (fun t ht hW => ⟨1, rfl, by first | (simp only [pm_nms, h1, h2, h2b, h3, h3b, h4, h4b, ↓reduceIte, not_true_eq_false, not_false_eq_true, and_true, true_and, and_false, false_and, or_true, true_or, or_false, false_or, and_self, or_self]; done) | (simp [pm_nms, h1, h2, h2b, h3, h3b, h4, h4b]; done) | (simp_all [pm_nms]; done), ht⟩) (fun q hq => by cases hq) dX5_names_32
  · skip
    refine lv_iconst (v := 3) hx hb dX5_names_6 (by decide) ?_
    refine lv_goto (tgt := 32) hx hb dX5_names_7 (by decide) ?_
    exact W.iret (v := 3) hx hb hr (fun t ht hW => ⟨3, rfl, by first | (simp only [pm_nms, h1, ↓reduceIte, not_true_eq_false, not_false_eq_true, and_true, true_and, and_false, false_and, or_true, true_or, or_false, false_or, and_self, or_self]; done) | (simp [pm_nms, h1]; done) | (simp_all [pm_nms]; done), ht⟩) (fun q hq => by cases hq) dX5_names_32
set_option maxHeartbeats 4000000 in
set_option maxRecDepth 100000 in
theorem ctX5_worthOf (l : Launch) (x : Int32) : Met l yX5_worthOf wsX5_worthOf ({ frames := 1, cells := 0, slots := 0, locals := 20 }) (va_Pc [.int x] (fun _ => True)) (vp_Si (fun r => r = pm_wor x)) 0 0 (fun _ => False) := by
  refine Met.ofW (cc := cX5_worthOf) (maxL := 2) (ret := (some .int)) (by decide) rfl ?_
  intro p e s m args below meth c s₁ B hml hv
  obtain ⟨rfl, -⟩ := hv
  have hx := B.exec
  have hb := B.bytes
  have hr := B.returns
  have hts := atoms_spec (ws := wsX5_worthOf) B.pre
  have hown : s.vm.findClass RX5 = some m.cls := findClass_of_methodNamed B.named
  have hlocks := B.notSynchronized
  have hl := lv_entry ([.int x]) (n := 2) (Nat.le_of_ble_eq_true rfl)
  rw [lg_entry_eq]
  generalize (lg_sl ([.int x]) ++ List.replicate (2 - (lg_sl ([.int x])).length) Slot.unset).toArray = ls at hl ⊢
  have hl : lv_has ls 2 [(0, .int x)] := hl
  refine lv_iload_n hx hb dX5_worthOf_0 rfl (lv_at hl 0 rfl) ?_
  refine vp_callSi (W.runS (As := [.int x]) (rest := []) ⟨hx, hb, hml, hown, hts⟩ (ctX5_infinite l x) (va_cwS 1 hts (wA_wsS wm_ml_X5_38 wm_st_X5_infinite wm_in_X5 wm_cd_X5_infinite) rfl rfl rfl (by decide +kernel) ⟨Nat.le_of_ble_eq_true rfl, Nat.le_of_ble_eq_true rfl⟩) ⟨fun a U g mk q => q, fun U hU hW => ⟨rfl, trivial⟩⟩ rfl rfl hl.1 rfl (lv_room (Nat.le_of_ble_eq_true rfl)) dX5_worthOf_1 ⟨Nat.zero_le _, Nat.zero_le _⟩) (fun r1 er1 => ?_)
  subst er1
  refine lv_if_eq (tgt := 12) hx hb dX5_worthOf_4 (by decide) (fun h2 => ?_) (fun h2 => ?_)
  · skip
    refine lv_iload_n hx hb dX5_worthOf_12 rfl (lv_at hl 0 rfl) ?_
    refine lv_bipush (v := 15) hx hb dX5_worthOf_13 (by decide) ?_
    refine lv_iand hx hb dX5_worthOf_15 ?_
    refine vp_callSi (W.runS (As := [.int (x &&& 15)]) (rest := []) ⟨hx, hb, hml, hown, hts⟩ (ctX5_quarters l (x &&& 15)) (va_cwS 1 hts (wA_wsS wm_ml_X5_42 wm_st_X5_quarters wm_in_X5 wm_cd_X5_quarters) rfl rfl rfl (by decide +kernel) ⟨Nat.le_of_ble_eq_true rfl, Nat.le_of_ble_eq_true rfl⟩) ⟨fun a U g mk q => q, fun U hU hW => ⟨rfl, trivial⟩⟩ rfl rfl hl.1 rfl (lv_room (Nat.le_of_ble_eq_true rfl)) dX5_worthOf_16 ⟨Nat.zero_le _, Nat.zero_le _⟩) (fun r3 er3 => ?_)
    subst er3
    refine lv_istore_n (lv' := [(1, .int (pm_q (x &&& 15))), (0, .int x)]) hx hb dX5_worthOf_19 rfl hl (by decide) rfl (fun ls hl => ?_)
    refine lv_iload_n hx hb dX5_worthOf_20 rfl (lv_at hl 1 rfl) ?_
    refine lv_bipush (v := 16) hx hb dX5_worthOf_21 (by decide) ?_
    refine lv_icmp_lt (tgt := 31) hx hb dX5_worthOf_23 (by decide) (fun h4 => ?_) (fun h4 => ?_)
    · skip
      have h4b := Int32.not_le.mpr h4
      refine lv_iload_n hx hb dX5_worthOf_31 rfl (lv_at hl 0 rfl) ?_
      exact W.iret (v := pm_q (x &&& 15)) hx hb hr (fun t ht hW => ⟨pm_q (x &&& 15), rfl, by first | (simp only [pm_wor, h2, h4, h4b, ↓reduceIte, not_true_eq_false, not_false_eq_true, and_true, true_and, and_false, false_and, or_true, true_or, or_false, false_or, and_self, or_self]; done) | (simp [pm_wor, h2, h4, h4b]; done) | (simp_all [pm_wor]; done), ht⟩) (fun q hq => by cases hq) dX5_worthOf_32
    · skip
      have h4b := Int32.not_lt.mp h4
      refine lv_iload_n hx hb dX5_worthOf_26 rfl (lv_at hl 0 rfl) ?_
      refine lv_ineg hx hb dX5_worthOf_27 ?_
      refine lv_goto (tgt := 32) hx hb dX5_worthOf_28 (by decide) ?_
      exact W.iret (v := -(pm_q (x &&& 15))) hx hb hr (fun t ht hW => ⟨-(pm_q (x &&& 15)), rfl, by first | (simp only [pm_wor, h2, h4, h4b, ↓reduceIte, not_true_eq_false, not_false_eq_true, and_true, true_and, and_false, false_and, or_true, true_or, or_false, false_or, and_self, or_self]; done) | (simp [pm_wor, h2, h4, h4b]; done) | (simp_all [pm_wor]; done), ht⟩) (fun q hq => by cases hq) dX5_worthOf_32
  · skip
    refine lv_bipush (v := 100) hx hb dX5_worthOf_7 (by decide) ?_
    refine lv_goto (tgt := 19) hx hb dX5_worthOf_9 (by decide) ?_
    refine lv_istore_n (lv' := [(1, .int 100), (0, .int x)]) hx hb dX5_worthOf_19 rfl hl (by decide) rfl (fun ls hl => ?_)
    refine lv_iload_n hx hb dX5_worthOf_20 rfl (lv_at hl 1 rfl) ?_
    refine lv_bipush (v := 16) hx hb dX5_worthOf_21 (by decide) ?_
    refine lv_icmp_lt (tgt := 31) hx hb dX5_worthOf_23 (by decide) (fun h5 => ?_) (fun h5 => ?_)
    · skip
      have h5b := Int32.not_le.mpr h5
      refine lv_iload_n hx hb dX5_worthOf_31 rfl (lv_at hl 0 rfl) ?_
      exact W.iret (v := 100) hx hb hr (fun t ht hW => ⟨100, rfl, by first | (simp only [pm_wor, h2, h5, h5b, ↓reduceIte, not_true_eq_false, not_false_eq_true, and_true, true_and, and_false, false_and, or_true, true_or, or_false, false_or, and_self, or_self]; done) | (simp [pm_wor, h2, h5, h5b]; done) | (simp_all [pm_wor]; done), ht⟩) (fun q hq => by cases hq) dX5_worthOf_32
    · skip
      have h5b := Int32.not_lt.mp h5
      refine lv_iload_n hx hb dX5_worthOf_26 rfl (lv_at hl 0 rfl) ?_
      refine lv_ineg hx hb dX5_worthOf_27 ?_
      refine lv_goto (tgt := 32) hx hb dX5_worthOf_28 (by decide) ?_
      exact W.iret (v := -100) hx hb hr (fun t ht hW => ⟨-100, rfl, by first | (simp only [pm_wor, h2, h5, h5b, ↓reduceIte, not_true_eq_false, not_false_eq_true, and_true, true_and, and_false, false_and, or_true, true_or, or_false, false_or, and_self, or_self]; done) | (simp [pm_wor, h2, h5, h5b]; done) | (simp_all [pm_wor]; done), ht⟩) (fun q hq => by cases hq) dX5_worthOf_32
set_option maxHeartbeats 4000000 in
set_option maxRecDepth 100000 in
theorem ctX5_round (l : Launch) (s0 : Int32) : Met l yX5_round wsX5_round ({ frames := 1, cells := 0, slots := 0, locals := 20 }) (va_Pc [.int s0] (fun _ => True)) (vp_Si (fun r => r = pm_rnd s0)) 0 0 (fun _ => False) := by
  refine Met.ofW (cc := cX5_round) (maxL := 7) (ret := (some .int)) (by decide) rfl ?_
  intro p e s m args below meth c s₁ B hml hv
  obtain ⟨rfl, -⟩ := hv
  have hx := B.exec
  have hb := B.bytes
  have hr := B.returns
  have hts := atoms_spec (ws := wsX5_round) B.pre
  have hown : s.vm.findClass RX5 = some m.cls := findClass_of_methodNamed B.named
  have hlocks := B.notSynchronized
  have hl := lv_entry ([.int s0]) (n := 7) (Nat.le_of_ble_eq_true rfl)
  rw [lg_entry_eq]
  generalize (lg_sl ([.int s0]) ++ List.replicate (7 - (lg_sl ([.int s0])).length) Slot.unset).toArray = ls at hl ⊢
  have hl : lv_has ls 7 [(0, .int s0)] := hl
  refine lv_iconst (v := 0) hx hb dX5_round_0 (by decide) ?_
  refine lv_istore_n (lv' := [(1, .int 0), (0, .int s0)]) hx hb dX5_round_1 rfl hl (by decide) rfl (fun ls hl => ?_)
  refine lv_iconst (v := 1) hx hb dX5_round_2 (by decide) ?_
  refine lv_istore_n (lv' := [(2, .int 1), (1, .int 0), (0, .int s0)]) hx hb dX5_round_3 rfl hl (by decide) rfl (fun ls hl => ?_)
  refine xw_loop (pc := 4) (fun j : Nat => 12 - j) (fun j ls H9 locs9 => j ≤ 12 ∧ H9 = s.heap ∧ locs9 = [] ∧ lv_has ls 7 [(2, .int (nI (j + 1))), (1, .int (pm_rlp s0 j)), (0, .int s0)]) ?_ 0 ls _ _ ⟨by omega, rfl, rfl, hl⟩
  intro j ls H9 locs9 ⟨hj, hH9, hL9, hl⟩ ih
  subst hH9
  subst hL9
  refine lv_iload_n hx hb dX5_round_4 rfl (lv_at hl 0 rfl) ?_
  refine lv_bipush (v := 12) hx hb dX5_round_5 (by decide) ?_
  refine lv_icmp_gt (tgt := 84) hx hb dX5_round_7 (by decide) (fun h1 => ?_) (fun h1 => ?_)
  · skip
    have h1b := Int32.not_le.mpr h1
    refine lv_iload_n hx hb dX5_round_84 rfl (lv_at hl 1 rfl) ?_
    have ej : j = 12 := by
      have q : ¬ j + 1 ≤ 12 := fun z => absurd h1 (nI_nlt (a := 12) (b := j + 1) z (by omega))
      omega
    exact W.iret (v := pm_rlp s0 j) hx hb hr (fun t ht hW => ⟨pm_rlp s0 j, rfl, by rw [ej]; rfl, ht⟩) (fun q hq => by cases hq) dX5_round_85
  · skip
    have h1b := Int32.not_lt.mp h1
    refine lv_iload_n hx hb dX5_round_10 rfl (lv_at hl 2 rfl) ?_
    refine lv_iconst (v := 4) hx hb dX5_round_11 (by decide) ?_
    refine lv_iload_n hx hb dX5_round_12 rfl (lv_at hl 0 rfl) ?_
    refine vp_callSi (W.runS (As := [.int (nI (j + 1))]) (rest := [.int 4, .int s0]) ⟨hx, hb, hml, hown, hts⟩ (ctX5_quarters l (nI (j + 1))) (va_cwS 1 hts (wA_wsS wm_ml_X5_42 wm_st_X5_quarters wm_in_X5 wm_cd_X5_quarters) rfl rfl rfl (by decide +kernel) ⟨Nat.le_of_ble_eq_true rfl, Nat.le_of_ble_eq_true rfl⟩) ⟨fun a U g mk q => q, fun U hU hW => ⟨rfl, trivial⟩⟩ rfl rfl hl.1 rfl (lv_room (Nat.le_of_ble_eq_true rfl)) dX5_round_13 ⟨Nat.zero_le _, Nat.zero_le _⟩) (fun r2 er2 => ?_)
    subst er2
    refine lv_imul hx hb dX5_round_16 ?_
    refine lv_isub hx hb dX5_round_17 ?_
    refine lv_istore_n (lv' := [(3, .int (s0 - (4 * (pm_q (nI (j + 1)))))), (2, .int (nI (j + 1))), (1, .int (pm_rlp s0 j)), (0, .int s0)]) hx hb dX5_round_18 rfl hl (by decide) rfl (fun ls hl => ?_)
    refine lv_iload_n hx hb dX5_round_19 rfl (lv_at hl 3 rfl) ?_
    refine lv_iconst (v := 4) hx hb dX5_round_20 (by decide) ?_
    refine lv_iload_n hx hb dX5_round_21 rfl (lv_at hl 2 rfl) ?_
    refine vp_callSi (W.runS (As := [.int (pm_rlp s0 j)]) (rest := [.int 4, .int s0]) ⟨hx, hb, hml, hown, hts⟩ (ctX5_quarters l (pm_rlp s0 j)) (va_cwS 1 hts (wA_wsS wm_ml_X5_42 wm_st_X5_quarters wm_in_X5 wm_cd_X5_quarters) rfl rfl rfl (by decide +kernel) ⟨Nat.le_of_ble_eq_true rfl, Nat.le_of_ble_eq_true rfl⟩) ⟨fun a U g mk q => q, fun U hU hW => ⟨rfl, trivial⟩⟩ rfl rfl hl.1 rfl (lv_room (Nat.le_of_ble_eq_true rfl)) dX5_round_22 ⟨Nat.zero_le _, Nat.zero_le _⟩) (fun r3 er3 => ?_)
    subst er3
    refine lv_imul hx hb dX5_round_25 ?_
    refine lv_isub hx hb dX5_round_26 ?_
    refine lv_istore (lv' := [(4, .int (s0 - (4 * (pm_q (pm_rlp s0 j))))), (3, .int (s0 - (4 * (pm_q (nI (j + 1)))))), (2, .int (nI (j + 1))), (1, .int (pm_rlp s0 j)), (0, .int s0)]) hx hb dX5_round_27 hl (by decide) rfl (fun ls hl => ?_)
    refine lv_iload_n hx hb dX5_round_29 rfl (lv_at hl 1 rfl) ?_
    refine lv_if_ge (tgt := 38) hx hb dX5_round_30 (by decide) (fun h4 => ?_) (fun h4 => ?_)
    · skip
      have h4b := Int32.not_lt.mpr h4
      refine lv_iload_n hx hb dX5_round_38 rfl (lv_at hl 1 rfl) ?_
      refine lv_istore (lv' := [(5, .int (s0 - (4 * (pm_q (nI (j + 1)))))), (4, .int (s0 - (4 * (pm_q (pm_rlp s0 j))))), (3, .int (s0 - (4 * (pm_q (nI (j + 1)))))), (2, .int (nI (j + 1))), (1, .int (pm_rlp s0 j)), (0, .int s0)]) hx hb dX5_round_39 hl (by decide) rfl (fun ls hl => ?_)
      refine lv_iload hx hb dX5_round_41 (lv_at hl 1 rfl) ?_
      refine lv_if_ge (tgt := 52) hx hb dX5_round_43 (by decide) (fun h5 => ?_) (fun h5 => ?_)
      · skip
        have h5b := Int32.not_lt.mpr h5
        refine lv_iload hx hb dX5_round_52 (lv_at hl 1 rfl) ?_
        refine lv_istore (lv' := [(6, .int (s0 - (4 * (pm_q (pm_rlp s0 j))))), (5, .int (s0 - (4 * (pm_q (nI (j + 1)))))), (4, .int (s0 - (4 * (pm_q (pm_rlp s0 j))))), (3, .int (s0 - (4 * (pm_q (nI (j + 1)))))), (2, .int (nI (j + 1))), (1, .int (pm_rlp s0 j)), (0, .int s0)]) hx hb dX5_round_54 hl (by decide) rfl (fun ls hl => ?_)
        refine lv_iload hx hb dX5_round_56 (lv_at hl 1 rfl) ?_
        refine lv_iload hx hb dX5_round_58 (lv_at hl 0 rfl) ?_
        refine lv_icmp_lt (tgt := 76) hx hb dX5_round_60 (by decide) (fun h6 => ?_) (fun h6 => ?_)
        · skip
          have h6b := Int32.not_le.mpr h6
          refine lv_iload_n hx hb dX5_round_76 rfl (lv_at hl 4 rfl) ?_
          refine lv_istore_n (lv' := [(1, .int (nI (j + 1))), (6, .int (s0 - (4 * (pm_q (pm_rlp s0 j))))), (5, .int (s0 - (4 * (pm_q (nI (j + 1)))))), (4, .int (s0 - (4 * (pm_q (pm_rlp s0 j))))), (3, .int (s0 - (4 * (pm_q (nI (j + 1)))))), (2, .int (nI (j + 1))), (0, .int s0)]) hx hb dX5_round_77 rfl hl (by decide) rfl (fun ls hl => ?_)
          refine lv_iinc (k := 5) (v := nI (j + 1 + 1)) (lv' := [(2, .int (nI (j + 1 + 1))), (1, .int (nI (j + 1))), (6, .int (s0 - (4 * (pm_q (pm_rlp s0 j))))), (5, .int (s0 - (4 * (pm_q (nI (j + 1)))))), (4, .int (s0 - (4 * (pm_q (pm_rlp s0 j))))), (3, .int (s0 - (4 * (pm_q (nI (j + 1)))))), (0, .int s0)]) hx hb dX5_round_78 hl rfl ((nI_1 (j + 1))) (by decide) rfl (fun ls hl => ?_)
          refine lv_goto (tgt := 4) hx hb dX5_round_81 (by decide) ?_
          have hl := lv_sub hl [0, 1, 6] rfl
          have hjj : j + 1 ≤ 12 := by
            refine Nat.le_of_not_lt fun z => h1 (nI_lt (a := 12) (b := j + 1) z (by omega))
          have eb : nI (j + 1) = pm_rlp s0 (j + 1) := (pm_rst_y (A := s0 - (4 * (pm_q (nI (j + 1))))) (B := s0 - (4 * (pm_q (pm_rlp s0 j)))) (by unfold pm_ab; first | rw [if_pos h4b] | rw [if_neg h4b]) (by unfold pm_ab; first | rw [if_pos h5b] | rw [if_neg h5b]) (Or.inl h6)).symm
          rw [eb] at hl
          exact ih (j + 1) _ _ _ ⟨hjj, rfl, rfl, hl⟩ (by show 12 - (j + 1) < 12 - j; omega)
        · skip
          have h6b := Int32.not_lt.mp h6
          refine lv_iload hx hb dX5_round_63 (lv_at hl 1 rfl) ?_
          refine lv_iload hx hb dX5_round_65 (lv_at hl 0 rfl) ?_
          refine lv_icmp_ne (tgt := 78) hx hb dX5_round_67 (by decide) (fun h7 => ?_) (fun h7 => ?_)
          · skip
            refine lv_iinc (k := 4) (v := nI (j + 1 + 1)) (lv' := [(2, .int (nI (j + 1 + 1))), (6, .int (s0 - (4 * (pm_q (pm_rlp s0 j))))), (5, .int (s0 - (4 * (pm_q (nI (j + 1)))))), (4, .int (s0 - (4 * (pm_q (pm_rlp s0 j))))), (3, .int (s0 - (4 * (pm_q (nI (j + 1)))))), (1, .int (pm_rlp s0 j)), (0, .int s0)]) hx hb dX5_round_78 hl rfl ((nI_1 (j + 1))) (by decide) rfl (fun ls hl => ?_)
            refine lv_goto (tgt := 4) hx hb dX5_round_81 (by decide) ?_
            have hl := lv_sub hl [0, 5, 6] rfl
            have hjj : j + 1 ≤ 12 := by
              refine Nat.le_of_not_lt fun z => h1 (nI_lt (a := 12) (b := j + 1) z (by omega))
            have eb : pm_rlp s0 j = pm_rlp s0 (j + 1) := (pm_rst_n (A := s0 - (4 * (pm_q (nI (j + 1))))) (B := s0 - (4 * (pm_q (pm_rlp s0 j)))) (by unfold pm_ab; first | rw [if_pos h4b] | rw [if_neg h4b]) (by unfold pm_ab; first | rw [if_pos h5b] | rw [if_neg h5b]) (fun z => z.elim h6 (fun q => h7 q.1))).symm
            rw [eb] at hl
            exact ih (j + 1) _ _ _ ⟨hjj, rfl, rfl, hl⟩ (by show 12 - (j + 1) < 12 - j; omega)
          · skip
            refine lv_iload_n hx hb dX5_round_70 rfl (lv_at hl 4 rfl) ?_
            refine lv_iconst (v := 2) hx hb dX5_round_71 (by decide) ?_
            refine lv_irem hx hb dX5_round_72 (by decide) ?_
            refine lv_if_ne (tgt := 78) hx hb dX5_round_73 (by decide) (fun h8 => ?_) (fun h8 => ?_)
            · skip
              refine lv_iinc (k := 4) (v := nI (j + 1 + 1)) (lv' := [(2, .int (nI (j + 1 + 1))), (6, .int (s0 - (4 * (pm_q (pm_rlp s0 j))))), (5, .int (s0 - (4 * (pm_q (nI (j + 1)))))), (4, .int (s0 - (4 * (pm_q (pm_rlp s0 j))))), (3, .int (s0 - (4 * (pm_q (nI (j + 1)))))), (1, .int (pm_rlp s0 j)), (0, .int s0)]) hx hb dX5_round_78 hl rfl ((nI_1 (j + 1))) (by decide) rfl (fun ls hl => ?_)
              refine lv_goto (tgt := 4) hx hb dX5_round_81 (by decide) ?_
              have hl := lv_sub hl [0, 5, 6] rfl
              have hjj : j + 1 ≤ 12 := by
                refine Nat.le_of_not_lt fun z => h1 (nI_lt (a := 12) (b := j + 1) z (by omega))
              have eb : pm_rlp s0 j = pm_rlp s0 (j + 1) := (pm_rst_n (A := s0 - (4 * (pm_q (nI (j + 1))))) (B := s0 - (4 * (pm_q (pm_rlp s0 j)))) (by unfold pm_ab; first | rw [if_pos h4b] | rw [if_neg h4b]) (by unfold pm_ab; first | rw [if_pos h5b] | rw [if_neg h5b]) (fun z => z.elim h6 (fun q => h8 q.2))).symm
              rw [eb] at hl
              exact ih (j + 1) _ _ _ ⟨hjj, rfl, rfl, hl⟩ (by show 12 - (j + 1) < 12 - j; omega)
            · skip
              refine lv_iload_n hx hb dX5_round_76 rfl (lv_at hl 4 rfl) ?_
              refine lv_istore_n (lv' := [(1, .int (nI (j + 1))), (6, .int (s0 - (4 * (pm_q (pm_rlp s0 j))))), (5, .int (s0 - (4 * (pm_q (nI (j + 1)))))), (4, .int (s0 - (4 * (pm_q (pm_rlp s0 j))))), (3, .int (s0 - (4 * (pm_q (nI (j + 1)))))), (2, .int (nI (j + 1))), (0, .int s0)]) hx hb dX5_round_77 rfl hl (by decide) rfl (fun ls hl => ?_)
              refine lv_iinc (k := 5) (v := nI (j + 1 + 1)) (lv' := [(2, .int (nI (j + 1 + 1))), (1, .int (nI (j + 1))), (6, .int (s0 - (4 * (pm_q (pm_rlp s0 j))))), (5, .int (s0 - (4 * (pm_q (nI (j + 1)))))), (4, .int (s0 - (4 * (pm_q (pm_rlp s0 j))))), (3, .int (s0 - (4 * (pm_q (nI (j + 1)))))), (0, .int s0)]) hx hb dX5_round_78 hl rfl ((nI_1 (j + 1))) (by decide) rfl (fun ls hl => ?_)
              refine lv_goto (tgt := 4) hx hb dX5_round_81 (by decide) ?_
              have hl := lv_sub hl [0, 1, 6] rfl
              have hjj : j + 1 ≤ 12 := by
                refine Nat.le_of_not_lt fun z => h1 (nI_lt (a := 12) (b := j + 1) z (by omega))
              have eb : nI (j + 1) = pm_rlp s0 (j + 1) := (pm_rst_y (A := s0 - (4 * (pm_q (nI (j + 1))))) (B := s0 - (4 * (pm_q (pm_rlp s0 j)))) (by unfold pm_ab; first | rw [if_pos h4b] | rw [if_neg h4b]) (by unfold pm_ab; first | rw [if_pos h5b] | rw [if_neg h5b]) (Or.inr ⟨h7, h8⟩)).symm
              rw [eb] at hl
              exact ih (j + 1) _ _ _ ⟨hjj, rfl, rfl, hl⟩ (by show 12 - (j + 1) < 12 - j; omega)
      · skip
        have h5b := Int32.not_le.mp h5
        refine lv_iload hx hb dX5_round_46 (lv_at hl 1 rfl) ?_
        refine lv_ineg hx hb dX5_round_48 ?_
        refine lv_goto (tgt := 54) hx hb dX5_round_49 (by decide) ?_
        refine lv_istore (lv' := [(6, .int (-(s0 - (4 * (pm_q (pm_rlp s0 j)))))), (5, .int (s0 - (4 * (pm_q (nI (j + 1)))))), (4, .int (s0 - (4 * (pm_q (pm_rlp s0 j))))), (3, .int (s0 - (4 * (pm_q (nI (j + 1)))))), (2, .int (nI (j + 1))), (1, .int (pm_rlp s0 j)), (0, .int s0)]) hx hb dX5_round_54 hl (by decide) rfl (fun ls hl => ?_)
        refine lv_iload hx hb dX5_round_56 (lv_at hl 1 rfl) ?_
        refine lv_iload hx hb dX5_round_58 (lv_at hl 0 rfl) ?_
        refine lv_icmp_lt (tgt := 76) hx hb dX5_round_60 (by decide) (fun h9 => ?_) (fun h9 => ?_)
        · skip
          have h9b := Int32.not_le.mpr h9
          refine lv_iload_n hx hb dX5_round_76 rfl (lv_at hl 4 rfl) ?_
          refine lv_istore_n (lv' := [(1, .int (nI (j + 1))), (6, .int (-(s0 - (4 * (pm_q (pm_rlp s0 j)))))), (5, .int (s0 - (4 * (pm_q (nI (j + 1)))))), (4, .int (s0 - (4 * (pm_q (pm_rlp s0 j))))), (3, .int (s0 - (4 * (pm_q (nI (j + 1)))))), (2, .int (nI (j + 1))), (0, .int s0)]) hx hb dX5_round_77 rfl hl (by decide) rfl (fun ls hl => ?_)
          refine lv_iinc (k := 5) (v := nI (j + 1 + 1)) (lv' := [(2, .int (nI (j + 1 + 1))), (1, .int (nI (j + 1))), (6, .int (-(s0 - (4 * (pm_q (pm_rlp s0 j)))))), (5, .int (s0 - (4 * (pm_q (nI (j + 1)))))), (4, .int (s0 - (4 * (pm_q (pm_rlp s0 j))))), (3, .int (s0 - (4 * (pm_q (nI (j + 1)))))), (0, .int s0)]) hx hb dX5_round_78 hl rfl ((nI_1 (j + 1))) (by decide) rfl (fun ls hl => ?_)
          refine lv_goto (tgt := 4) hx hb dX5_round_81 (by decide) ?_
          have hl := lv_sub hl [0, 1, 6] rfl
          have hjj : j + 1 ≤ 12 := by
            refine Nat.le_of_not_lt fun z => h1 (nI_lt (a := 12) (b := j + 1) z (by omega))
          have eb : nI (j + 1) = pm_rlp s0 (j + 1) := (pm_rst_y (A := s0 - (4 * (pm_q (nI (j + 1))))) (B := -(s0 - (4 * (pm_q (pm_rlp s0 j))))) (by unfold pm_ab; first | rw [if_pos h4b] | rw [if_neg h4b]) (by unfold pm_ab; first | rw [if_pos h5b] | rw [if_neg h5b]) (Or.inl h9)).symm
          rw [eb] at hl
          exact ih (j + 1) _ _ _ ⟨hjj, rfl, rfl, hl⟩ (by show 12 - (j + 1) < 12 - j; omega)
        · skip
          have h9b := Int32.not_lt.mp h9
          refine lv_iload hx hb dX5_round_63 (lv_at hl 1 rfl) ?_
          refine lv_iload hx hb dX5_round_65 (lv_at hl 0 rfl) ?_
          refine lv_icmp_ne (tgt := 78) hx hb dX5_round_67 (by decide) (fun h10 => ?_) (fun h10 => ?_)
          · skip
            refine lv_iinc (k := 4) (v := nI (j + 1 + 1)) (lv' := [(2, .int (nI (j + 1 + 1))), (6, .int (-(s0 - (4 * (pm_q (pm_rlp s0 j)))))), (5, .int (s0 - (4 * (pm_q (nI (j + 1)))))), (4, .int (s0 - (4 * (pm_q (pm_rlp s0 j))))), (3, .int (s0 - (4 * (pm_q (nI (j + 1)))))), (1, .int (pm_rlp s0 j)), (0, .int s0)]) hx hb dX5_round_78 hl rfl ((nI_1 (j + 1))) (by decide) rfl (fun ls hl => ?_)
            refine lv_goto (tgt := 4) hx hb dX5_round_81 (by decide) ?_
            have hl := lv_sub hl [0, 5, 6] rfl
            have hjj : j + 1 ≤ 12 := by
              refine Nat.le_of_not_lt fun z => h1 (nI_lt (a := 12) (b := j + 1) z (by omega))
            have eb : pm_rlp s0 j = pm_rlp s0 (j + 1) := (pm_rst_n (A := s0 - (4 * (pm_q (nI (j + 1))))) (B := -(s0 - (4 * (pm_q (pm_rlp s0 j))))) (by unfold pm_ab; first | rw [if_pos h4b] | rw [if_neg h4b]) (by unfold pm_ab; first | rw [if_pos h5b] | rw [if_neg h5b]) (fun z => z.elim h9 (fun q => h10 q.1))).symm
            rw [eb] at hl
            exact ih (j + 1) _ _ _ ⟨hjj, rfl, rfl, hl⟩ (by show 12 - (j + 1) < 12 - j; omega)
          · skip
            refine lv_iload_n hx hb dX5_round_70 rfl (lv_at hl 4 rfl) ?_
            refine lv_iconst (v := 2) hx hb dX5_round_71 (by decide) ?_
            refine lv_irem hx hb dX5_round_72 (by decide) ?_
            refine lv_if_ne (tgt := 78) hx hb dX5_round_73 (by decide) (fun h11 => ?_) (fun h11 => ?_)
            · skip
              refine lv_iinc (k := 4) (v := nI (j + 1 + 1)) (lv' := [(2, .int (nI (j + 1 + 1))), (6, .int (-(s0 - (4 * (pm_q (pm_rlp s0 j)))))), (5, .int (s0 - (4 * (pm_q (nI (j + 1)))))), (4, .int (s0 - (4 * (pm_q (pm_rlp s0 j))))), (3, .int (s0 - (4 * (pm_q (nI (j + 1)))))), (1, .int (pm_rlp s0 j)), (0, .int s0)]) hx hb dX5_round_78 hl rfl ((nI_1 (j + 1))) (by decide) rfl (fun ls hl => ?_)
              refine lv_goto (tgt := 4) hx hb dX5_round_81 (by decide) ?_
              have hl := lv_sub hl [0, 5, 6] rfl
              have hjj : j + 1 ≤ 12 := by
                refine Nat.le_of_not_lt fun z => h1 (nI_lt (a := 12) (b := j + 1) z (by omega))
              have eb : pm_rlp s0 j = pm_rlp s0 (j + 1) := (pm_rst_n (A := s0 - (4 * (pm_q (nI (j + 1))))) (B := -(s0 - (4 * (pm_q (pm_rlp s0 j))))) (by unfold pm_ab; first | rw [if_pos h4b] | rw [if_neg h4b]) (by unfold pm_ab; first | rw [if_pos h5b] | rw [if_neg h5b]) (fun z => z.elim h9 (fun q => h11 q.2))).symm
              rw [eb] at hl
              exact ih (j + 1) _ _ _ ⟨hjj, rfl, rfl, hl⟩ (by show 12 - (j + 1) < 12 - j; omega)
            · skip
              refine lv_iload_n hx hb dX5_round_76 rfl (lv_at hl 4 rfl) ?_
              refine lv_istore_n (lv' := [(1, .int (nI (j + 1))), (6, .int (-(s0 - (4 * (pm_q (pm_rlp s0 j)))))), (5, .int (s0 - (4 * (pm_q (nI (j + 1)))))), (4, .int (s0 - (4 * (pm_q (pm_rlp s0 j))))), (3, .int (s0 - (4 * (pm_q (nI (j + 1)))))), (2, .int (nI (j + 1))), (0, .int s0)]) hx hb dX5_round_77 rfl hl (by decide) rfl (fun ls hl => ?_)
              refine lv_iinc (k := 5) (v := nI (j + 1 + 1)) (lv' := [(2, .int (nI (j + 1 + 1))), (1, .int (nI (j + 1))), (6, .int (-(s0 - (4 * (pm_q (pm_rlp s0 j)))))), (5, .int (s0 - (4 * (pm_q (nI (j + 1)))))), (4, .int (s0 - (4 * (pm_q (pm_rlp s0 j))))), (3, .int (s0 - (4 * (pm_q (nI (j + 1)))))), (0, .int s0)]) hx hb dX5_round_78 hl rfl ((nI_1 (j + 1))) (by decide) rfl (fun ls hl => ?_)
              refine lv_goto (tgt := 4) hx hb dX5_round_81 (by decide) ?_
              have hl := lv_sub hl [0, 1, 6] rfl
              have hjj : j + 1 ≤ 12 := by
                refine Nat.le_of_not_lt fun z => h1 (nI_lt (a := 12) (b := j + 1) z (by omega))
              have eb : nI (j + 1) = pm_rlp s0 (j + 1) := (pm_rst_y (A := s0 - (4 * (pm_q (nI (j + 1))))) (B := -(s0 - (4 * (pm_q (pm_rlp s0 j))))) (by unfold pm_ab; first | rw [if_pos h4b] | rw [if_neg h4b]) (by unfold pm_ab; first | rw [if_pos h5b] | rw [if_neg h5b]) (Or.inr ⟨h10, h11⟩)).symm
              rw [eb] at hl
              exact ih (j + 1) _ _ _ ⟨hjj, rfl, rfl, hl⟩ (by show 12 - (j + 1) < 12 - j; omega)
    · skip
      have h4b := Int32.not_le.mp h4
      refine lv_iload_n hx hb dX5_round_33 rfl (lv_at hl 1 rfl) ?_
      refine lv_ineg hx hb dX5_round_34 ?_
      refine lv_goto (tgt := 39) hx hb dX5_round_35 (by decide) ?_
      refine lv_istore (lv' := [(5, .int (-(s0 - (4 * (pm_q (nI (j + 1))))))), (4, .int (s0 - (4 * (pm_q (pm_rlp s0 j))))), (3, .int (s0 - (4 * (pm_q (nI (j + 1)))))), (2, .int (nI (j + 1))), (1, .int (pm_rlp s0 j)), (0, .int s0)]) hx hb dX5_round_39 hl (by decide) rfl (fun ls hl => ?_)
      refine lv_iload hx hb dX5_round_41 (lv_at hl 1 rfl) ?_
      refine lv_if_ge (tgt := 52) hx hb dX5_round_43 (by decide) (fun h12 => ?_) (fun h12 => ?_)
      · skip
        have h12b := Int32.not_lt.mpr h12
        refine lv_iload hx hb dX5_round_52 (lv_at hl 1 rfl) ?_
        refine lv_istore (lv' := [(6, .int (s0 - (4 * (pm_q (pm_rlp s0 j))))), (5, .int (-(s0 - (4 * (pm_q (nI (j + 1))))))), (4, .int (s0 - (4 * (pm_q (pm_rlp s0 j))))), (3, .int (s0 - (4 * (pm_q (nI (j + 1)))))), (2, .int (nI (j + 1))), (1, .int (pm_rlp s0 j)), (0, .int s0)]) hx hb dX5_round_54 hl (by decide) rfl (fun ls hl => ?_)
        refine lv_iload hx hb dX5_round_56 (lv_at hl 1 rfl) ?_
        refine lv_iload hx hb dX5_round_58 (lv_at hl 0 rfl) ?_
        refine lv_icmp_lt (tgt := 76) hx hb dX5_round_60 (by decide) (fun h13 => ?_) (fun h13 => ?_)
        · skip
          have h13b := Int32.not_le.mpr h13
          refine lv_iload_n hx hb dX5_round_76 rfl (lv_at hl 4 rfl) ?_
          refine lv_istore_n (lv' := [(1, .int (nI (j + 1))), (6, .int (s0 - (4 * (pm_q (pm_rlp s0 j))))), (5, .int (-(s0 - (4 * (pm_q (nI (j + 1))))))), (4, .int (s0 - (4 * (pm_q (pm_rlp s0 j))))), (3, .int (s0 - (4 * (pm_q (nI (j + 1)))))), (2, .int (nI (j + 1))), (0, .int s0)]) hx hb dX5_round_77 rfl hl (by decide) rfl (fun ls hl => ?_)
          refine lv_iinc (k := 5) (v := nI (j + 1 + 1)) (lv' := [(2, .int (nI (j + 1 + 1))), (1, .int (nI (j + 1))), (6, .int (s0 - (4 * (pm_q (pm_rlp s0 j))))), (5, .int (-(s0 - (4 * (pm_q (nI (j + 1))))))), (4, .int (s0 - (4 * (pm_q (pm_rlp s0 j))))), (3, .int (s0 - (4 * (pm_q (nI (j + 1)))))), (0, .int s0)]) hx hb dX5_round_78 hl rfl ((nI_1 (j + 1))) (by decide) rfl (fun ls hl => ?_)
          refine lv_goto (tgt := 4) hx hb dX5_round_81 (by decide) ?_
          have hl := lv_sub hl [0, 1, 6] rfl
          have hjj : j + 1 ≤ 12 := by
            refine Nat.le_of_not_lt fun z => h1 (nI_lt (a := 12) (b := j + 1) z (by omega))
          have eb : nI (j + 1) = pm_rlp s0 (j + 1) := (pm_rst_y (A := -(s0 - (4 * (pm_q (nI (j + 1)))))) (B := s0 - (4 * (pm_q (pm_rlp s0 j)))) (by unfold pm_ab; first | rw [if_pos h4b] | rw [if_neg h4b]) (by unfold pm_ab; first | rw [if_pos h12b] | rw [if_neg h12b]) (Or.inl h13)).symm
          rw [eb] at hl
          exact ih (j + 1) _ _ _ ⟨hjj, rfl, rfl, hl⟩ (by show 12 - (j + 1) < 12 - j; omega)
        · skip
          have h13b := Int32.not_lt.mp h13
          refine lv_iload hx hb dX5_round_63 (lv_at hl 1 rfl) ?_
          refine lv_iload hx hb dX5_round_65 (lv_at hl 0 rfl) ?_
          refine lv_icmp_ne (tgt := 78) hx hb dX5_round_67 (by decide) (fun h14 => ?_) (fun h14 => ?_)
          · skip
            refine lv_iinc (k := 4) (v := nI (j + 1 + 1)) (lv' := [(2, .int (nI (j + 1 + 1))), (6, .int (s0 - (4 * (pm_q (pm_rlp s0 j))))), (5, .int (-(s0 - (4 * (pm_q (nI (j + 1))))))), (4, .int (s0 - (4 * (pm_q (pm_rlp s0 j))))), (3, .int (s0 - (4 * (pm_q (nI (j + 1)))))), (1, .int (pm_rlp s0 j)), (0, .int s0)]) hx hb dX5_round_78 hl rfl ((nI_1 (j + 1))) (by decide) rfl (fun ls hl => ?_)
            refine lv_goto (tgt := 4) hx hb dX5_round_81 (by decide) ?_
            have hl := lv_sub hl [0, 5, 6] rfl
            have hjj : j + 1 ≤ 12 := by
              refine Nat.le_of_not_lt fun z => h1 (nI_lt (a := 12) (b := j + 1) z (by omega))
            have eb : pm_rlp s0 j = pm_rlp s0 (j + 1) := (pm_rst_n (A := -(s0 - (4 * (pm_q (nI (j + 1)))))) (B := s0 - (4 * (pm_q (pm_rlp s0 j)))) (by unfold pm_ab; first | rw [if_pos h4b] | rw [if_neg h4b]) (by unfold pm_ab; first | rw [if_pos h12b] | rw [if_neg h12b]) (fun z => z.elim h13 (fun q => h14 q.1))).symm
            rw [eb] at hl
            exact ih (j + 1) _ _ _ ⟨hjj, rfl, rfl, hl⟩ (by show 12 - (j + 1) < 12 - j; omega)
          · skip
            refine lv_iload_n hx hb dX5_round_70 rfl (lv_at hl 4 rfl) ?_
            refine lv_iconst (v := 2) hx hb dX5_round_71 (by decide) ?_
            refine lv_irem hx hb dX5_round_72 (by decide) ?_
            refine lv_if_ne (tgt := 78) hx hb dX5_round_73 (by decide) (fun h15 => ?_) (fun h15 => ?_)
            · skip
              refine lv_iinc (k := 4) (v := nI (j + 1 + 1)) (lv' := [(2, .int (nI (j + 1 + 1))), (6, .int (s0 - (4 * (pm_q (pm_rlp s0 j))))), (5, .int (-(s0 - (4 * (pm_q (nI (j + 1))))))), (4, .int (s0 - (4 * (pm_q (pm_rlp s0 j))))), (3, .int (s0 - (4 * (pm_q (nI (j + 1)))))), (1, .int (pm_rlp s0 j)), (0, .int s0)]) hx hb dX5_round_78 hl rfl ((nI_1 (j + 1))) (by decide) rfl (fun ls hl => ?_)
              refine lv_goto (tgt := 4) hx hb dX5_round_81 (by decide) ?_
              have hl := lv_sub hl [0, 5, 6] rfl
              have hjj : j + 1 ≤ 12 := by
                refine Nat.le_of_not_lt fun z => h1 (nI_lt (a := 12) (b := j + 1) z (by omega))
              have eb : pm_rlp s0 j = pm_rlp s0 (j + 1) := (pm_rst_n (A := -(s0 - (4 * (pm_q (nI (j + 1)))))) (B := s0 - (4 * (pm_q (pm_rlp s0 j)))) (by unfold pm_ab; first | rw [if_pos h4b] | rw [if_neg h4b]) (by unfold pm_ab; first | rw [if_pos h12b] | rw [if_neg h12b]) (fun z => z.elim h13 (fun q => h15 q.2))).symm
              rw [eb] at hl
              exact ih (j + 1) _ _ _ ⟨hjj, rfl, rfl, hl⟩ (by show 12 - (j + 1) < 12 - j; omega)
            · skip
              refine lv_iload_n hx hb dX5_round_76 rfl (lv_at hl 4 rfl) ?_
              refine lv_istore_n (lv' := [(1, .int (nI (j + 1))), (6, .int (s0 - (4 * (pm_q (pm_rlp s0 j))))), (5, .int (-(s0 - (4 * (pm_q (nI (j + 1))))))), (4, .int (s0 - (4 * (pm_q (pm_rlp s0 j))))), (3, .int (s0 - (4 * (pm_q (nI (j + 1)))))), (2, .int (nI (j + 1))), (0, .int s0)]) hx hb dX5_round_77 rfl hl (by decide) rfl (fun ls hl => ?_)
              refine lv_iinc (k := 5) (v := nI (j + 1 + 1)) (lv' := [(2, .int (nI (j + 1 + 1))), (1, .int (nI (j + 1))), (6, .int (s0 - (4 * (pm_q (pm_rlp s0 j))))), (5, .int (-(s0 - (4 * (pm_q (nI (j + 1))))))), (4, .int (s0 - (4 * (pm_q (pm_rlp s0 j))))), (3, .int (s0 - (4 * (pm_q (nI (j + 1)))))), (0, .int s0)]) hx hb dX5_round_78 hl rfl ((nI_1 (j + 1))) (by decide) rfl (fun ls hl => ?_)
              refine lv_goto (tgt := 4) hx hb dX5_round_81 (by decide) ?_
              have hl := lv_sub hl [0, 1, 6] rfl
              have hjj : j + 1 ≤ 12 := by
                refine Nat.le_of_not_lt fun z => h1 (nI_lt (a := 12) (b := j + 1) z (by omega))
              have eb : nI (j + 1) = pm_rlp s0 (j + 1) := (pm_rst_y (A := -(s0 - (4 * (pm_q (nI (j + 1)))))) (B := s0 - (4 * (pm_q (pm_rlp s0 j)))) (by unfold pm_ab; first | rw [if_pos h4b] | rw [if_neg h4b]) (by unfold pm_ab; first | rw [if_pos h12b] | rw [if_neg h12b]) (Or.inr ⟨h14, h15⟩)).symm
              rw [eb] at hl
              exact ih (j + 1) _ _ _ ⟨hjj, rfl, rfl, hl⟩ (by show 12 - (j + 1) < 12 - j; omega)
      · skip
        have h12b := Int32.not_le.mp h12
        refine lv_iload hx hb dX5_round_46 (lv_at hl 1 rfl) ?_
        refine lv_ineg hx hb dX5_round_48 ?_
        refine lv_goto (tgt := 54) hx hb dX5_round_49 (by decide) ?_
        refine lv_istore (lv' := [(6, .int (-(s0 - (4 * (pm_q (pm_rlp s0 j)))))), (5, .int (-(s0 - (4 * (pm_q (nI (j + 1))))))), (4, .int (s0 - (4 * (pm_q (pm_rlp s0 j))))), (3, .int (s0 - (4 * (pm_q (nI (j + 1)))))), (2, .int (nI (j + 1))), (1, .int (pm_rlp s0 j)), (0, .int s0)]) hx hb dX5_round_54 hl (by decide) rfl (fun ls hl => ?_)
        refine lv_iload hx hb dX5_round_56 (lv_at hl 1 rfl) ?_
        refine lv_iload hx hb dX5_round_58 (lv_at hl 0 rfl) ?_
        refine lv_icmp_lt (tgt := 76) hx hb dX5_round_60 (by decide) (fun h16 => ?_) (fun h16 => ?_)
        · skip
          have h16b := Int32.not_le.mpr h16
          refine lv_iload_n hx hb dX5_round_76 rfl (lv_at hl 4 rfl) ?_
          refine lv_istore_n (lv' := [(1, .int (nI (j + 1))), (6, .int (-(s0 - (4 * (pm_q (pm_rlp s0 j)))))), (5, .int (-(s0 - (4 * (pm_q (nI (j + 1))))))), (4, .int (s0 - (4 * (pm_q (pm_rlp s0 j))))), (3, .int (s0 - (4 * (pm_q (nI (j + 1)))))), (2, .int (nI (j + 1))), (0, .int s0)]) hx hb dX5_round_77 rfl hl (by decide) rfl (fun ls hl => ?_)
          refine lv_iinc (k := 5) (v := nI (j + 1 + 1)) (lv' := [(2, .int (nI (j + 1 + 1))), (1, .int (nI (j + 1))), (6, .int (-(s0 - (4 * (pm_q (pm_rlp s0 j)))))), (5, .int (-(s0 - (4 * (pm_q (nI (j + 1))))))), (4, .int (s0 - (4 * (pm_q (pm_rlp s0 j))))), (3, .int (s0 - (4 * (pm_q (nI (j + 1)))))), (0, .int s0)]) hx hb dX5_round_78 hl rfl ((nI_1 (j + 1))) (by decide) rfl (fun ls hl => ?_)
          refine lv_goto (tgt := 4) hx hb dX5_round_81 (by decide) ?_
          have hl := lv_sub hl [0, 1, 6] rfl
          have hjj : j + 1 ≤ 12 := by
            refine Nat.le_of_not_lt fun z => h1 (nI_lt (a := 12) (b := j + 1) z (by omega))
          have eb : nI (j + 1) = pm_rlp s0 (j + 1) := (pm_rst_y (A := -(s0 - (4 * (pm_q (nI (j + 1)))))) (B := -(s0 - (4 * (pm_q (pm_rlp s0 j))))) (by unfold pm_ab; first | rw [if_pos h4b] | rw [if_neg h4b]) (by unfold pm_ab; first | rw [if_pos h12b] | rw [if_neg h12b]) (Or.inl h16)).symm
          rw [eb] at hl
          exact ih (j + 1) _ _ _ ⟨hjj, rfl, rfl, hl⟩ (by show 12 - (j + 1) < 12 - j; omega)
        · skip
          have h16b := Int32.not_lt.mp h16
          refine lv_iload hx hb dX5_round_63 (lv_at hl 1 rfl) ?_
          refine lv_iload hx hb dX5_round_65 (lv_at hl 0 rfl) ?_
          refine lv_icmp_ne (tgt := 78) hx hb dX5_round_67 (by decide) (fun h17 => ?_) (fun h17 => ?_)
          · skip
            refine lv_iinc (k := 4) (v := nI (j + 1 + 1)) (lv' := [(2, .int (nI (j + 1 + 1))), (6, .int (-(s0 - (4 * (pm_q (pm_rlp s0 j)))))), (5, .int (-(s0 - (4 * (pm_q (nI (j + 1))))))), (4, .int (s0 - (4 * (pm_q (pm_rlp s0 j))))), (3, .int (s0 - (4 * (pm_q (nI (j + 1)))))), (1, .int (pm_rlp s0 j)), (0, .int s0)]) hx hb dX5_round_78 hl rfl ((nI_1 (j + 1))) (by decide) rfl (fun ls hl => ?_)
            refine lv_goto (tgt := 4) hx hb dX5_round_81 (by decide) ?_
            have hl := lv_sub hl [0, 5, 6] rfl
            have hjj : j + 1 ≤ 12 := by
              refine Nat.le_of_not_lt fun z => h1 (nI_lt (a := 12) (b := j + 1) z (by omega))
            have eb : pm_rlp s0 j = pm_rlp s0 (j + 1) := (pm_rst_n (A := -(s0 - (4 * (pm_q (nI (j + 1)))))) (B := -(s0 - (4 * (pm_q (pm_rlp s0 j))))) (by unfold pm_ab; first | rw [if_pos h4b] | rw [if_neg h4b]) (by unfold pm_ab; first | rw [if_pos h12b] | rw [if_neg h12b]) (fun z => z.elim h16 (fun q => h17 q.1))).symm
            rw [eb] at hl
            exact ih (j + 1) _ _ _ ⟨hjj, rfl, rfl, hl⟩ (by show 12 - (j + 1) < 12 - j; omega)
          · skip
            refine lv_iload_n hx hb dX5_round_70 rfl (lv_at hl 4 rfl) ?_
            refine lv_iconst (v := 2) hx hb dX5_round_71 (by decide) ?_
            refine lv_irem hx hb dX5_round_72 (by decide) ?_
            refine lv_if_ne (tgt := 78) hx hb dX5_round_73 (by decide) (fun h18 => ?_) (fun h18 => ?_)
            · skip
              refine lv_iinc (k := 4) (v := nI (j + 1 + 1)) (lv' := [(2, .int (nI (j + 1 + 1))), (6, .int (-(s0 - (4 * (pm_q (pm_rlp s0 j)))))), (5, .int (-(s0 - (4 * (pm_q (nI (j + 1))))))), (4, .int (s0 - (4 * (pm_q (pm_rlp s0 j))))), (3, .int (s0 - (4 * (pm_q (nI (j + 1)))))), (1, .int (pm_rlp s0 j)), (0, .int s0)]) hx hb dX5_round_78 hl rfl ((nI_1 (j + 1))) (by decide) rfl (fun ls hl => ?_)
              refine lv_goto (tgt := 4) hx hb dX5_round_81 (by decide) ?_
              have hl := lv_sub hl [0, 5, 6] rfl
              have hjj : j + 1 ≤ 12 := by
                refine Nat.le_of_not_lt fun z => h1 (nI_lt (a := 12) (b := j + 1) z (by omega))
              have eb : pm_rlp s0 j = pm_rlp s0 (j + 1) := (pm_rst_n (A := -(s0 - (4 * (pm_q (nI (j + 1)))))) (B := -(s0 - (4 * (pm_q (pm_rlp s0 j))))) (by unfold pm_ab; first | rw [if_pos h4b] | rw [if_neg h4b]) (by unfold pm_ab; first | rw [if_pos h12b] | rw [if_neg h12b]) (fun z => z.elim h16 (fun q => h18 q.2))).symm
              rw [eb] at hl
              exact ih (j + 1) _ _ _ ⟨hjj, rfl, rfl, hl⟩ (by show 12 - (j + 1) < 12 - j; omega)
            · skip
              refine lv_iload_n hx hb dX5_round_76 rfl (lv_at hl 4 rfl) ?_
              refine lv_istore_n (lv' := [(1, .int (nI (j + 1))), (6, .int (-(s0 - (4 * (pm_q (pm_rlp s0 j)))))), (5, .int (-(s0 - (4 * (pm_q (nI (j + 1))))))), (4, .int (s0 - (4 * (pm_q (pm_rlp s0 j))))), (3, .int (s0 - (4 * (pm_q (nI (j + 1)))))), (2, .int (nI (j + 1))), (0, .int s0)]) hx hb dX5_round_77 rfl hl (by decide) rfl (fun ls hl => ?_)
              refine lv_iinc (k := 5) (v := nI (j + 1 + 1)) (lv' := [(2, .int (nI (j + 1 + 1))), (1, .int (nI (j + 1))), (6, .int (-(s0 - (4 * (pm_q (pm_rlp s0 j)))))), (5, .int (-(s0 - (4 * (pm_q (nI (j + 1))))))), (4, .int (s0 - (4 * (pm_q (pm_rlp s0 j))))), (3, .int (s0 - (4 * (pm_q (nI (j + 1)))))), (0, .int s0)]) hx hb dX5_round_78 hl rfl ((nI_1 (j + 1))) (by decide) rfl (fun ls hl => ?_)
              refine lv_goto (tgt := 4) hx hb dX5_round_81 (by decide) ?_
              have hl := lv_sub hl [0, 1, 6] rfl
              have hjj : j + 1 ≤ 12 := by
                refine Nat.le_of_not_lt fun z => h1 (nI_lt (a := 12) (b := j + 1) z (by omega))
              have eb : nI (j + 1) = pm_rlp s0 (j + 1) := (pm_rst_y (A := -(s0 - (4 * (pm_q (nI (j + 1)))))) (B := -(s0 - (4 * (pm_q (pm_rlp s0 j))))) (by unfold pm_ab; first | rw [if_pos h4b] | rw [if_neg h4b]) (by unfold pm_ab; first | rw [if_pos h12b] | rw [if_neg h12b]) (Or.inr ⟨h17, h18⟩)).symm
              rw [eb] at hl
              exact ih (j + 1) _ _ _ ⟨hjj, rfl, rfl, hl⟩ (by show 12 - (j + 1) < 12 - j; omega)
set_option maxHeartbeats 4000000 in
set_option maxRecDepth 100000 in
theorem ctX5_equal (l : Launch) (x y : Int32) : Met l yX5_equal wsX5_equal ({ frames := 1, cells := 0, slots := 0, locals := 20 }) (va_Pc [.int x, .int y] (fun _ => True)) (vp_Si (fun r => r = pm_eq x y)) 0 0 (fun _ => False) := by
  refine Met.ofW (cc := cX5_equal) (maxL := 2) (ret := (some .boolean)) (by decide) rfl ?_
  intro p e s m args below meth c s₁ B hml hv
  obtain ⟨rfl, -⟩ := hv
  have hx := B.exec
  have hb := B.bytes
  have hr := B.returns
  have hts := atoms_spec (ws := wsX5_equal) B.pre
  have hown : s.vm.findClass RX5 = some m.cls := findClass_of_methodNamed B.named
  have hlocks := B.notSynchronized
  have hl := lv_entry ([.int x, .int y]) (n := 2) (Nat.le_of_ble_eq_true rfl)
  rw [lg_entry_eq]
  generalize (lg_sl ([.int x, .int y]) ++ List.replicate (2 - (lg_sl ([.int x, .int y])).length) Slot.unset).toArray = ls at hl ⊢
  have hl : lv_has ls 2 [(0, .int x), (1, .int y)] := hl
  refine lv_iload_n hx hb dX5_equal_0 rfl (lv_at hl 0 rfl) ?_
  refine vp_callSi (W.runS (As := [.int x]) (rest := []) ⟨hx, hb, hml, hown, hts⟩ (ctX5_nan l x) (va_cwS 1 hts (wA_wsS wm_ml_X5_46 wm_st_X5_nan wm_in_X5 wm_cd_X5_nan) rfl rfl rfl (by decide +kernel) ⟨Nat.le_of_ble_eq_true rfl, Nat.le_of_ble_eq_true rfl⟩) ⟨fun a U g mk q => q, fun U hU hW => ⟨rfl, trivial⟩⟩ rfl rfl hl.1 rfl (lv_room (Nat.le_of_ble_eq_true rfl)) dX5_equal_1 ⟨Nat.zero_le _, Nat.zero_le _⟩) (fun r1 er1 => ?_)
  subst er1
  refine lv_if_ne (tgt := 37) hx hb dX5_equal_4 (by decide) (fun h2 => ?_) (fun h2 => ?_)
  · skip
    refine lv_iconst (v := 0) hx hb dX5_equal_37 (by decide) ?_
    exact W.zret (v := 0) hx hb hr (rfl) (fun t ht hW => ⟨0, rfl, by first | (simp only [pm_eq, h2, ↓reduceIte, not_true_eq_false, not_false_eq_true, and_true, true_and, and_false, false_and, or_true, true_or, or_false, false_or, and_self, or_self]; done) | (simp [pm_eq, h2]; done) | (simp_all [pm_eq]; done), ht⟩) (fun q hq => by cases hq) dX5_equal_38
  · skip
    refine lv_iload_n hx hb dX5_equal_7 rfl (lv_at hl 1 rfl) ?_
    refine vp_callSi (W.runS (As := [.int y]) (rest := []) ⟨hx, hb, hml, hown, hts⟩ (ctX5_nan l y) (va_cwS 1 hts (wA_wsS wm_ml_X5_46 wm_st_X5_nan wm_in_X5 wm_cd_X5_nan) rfl rfl rfl (by decide +kernel) ⟨Nat.le_of_ble_eq_true rfl, Nat.le_of_ble_eq_true rfl⟩) ⟨fun a U g mk q => q, fun U hU hW => ⟨rfl, trivial⟩⟩ rfl rfl hl.1 rfl (lv_room (Nat.le_of_ble_eq_true rfl)) dX5_equal_8 ⟨Nat.zero_le _, Nat.zero_le _⟩) (fun r3 er3 => ?_)
    subst er3
    refine lv_if_ne (tgt := 37) hx hb dX5_equal_11 (by decide) (fun h4 => ?_) (fun h4 => ?_)
    · skip
      refine lv_iconst (v := 0) hx hb dX5_equal_37 (by decide) ?_
      exact W.zret (v := 0) hx hb hr (rfl) (fun t ht hW => ⟨0, rfl, by first | (simp only [pm_eq, h2, h4, ↓reduceIte, not_true_eq_false, not_false_eq_true, and_true, true_and, and_false, false_and, or_true, true_or, or_false, false_or, and_self, or_self]; done) | (simp [pm_eq, h2, h4]; done) | (simp_all [pm_eq]; done), ht⟩) (fun q hq => by cases hq) dX5_equal_38
    · skip
      refine lv_iload_n hx hb dX5_equal_14 rfl (lv_at hl 0 rfl) ?_
      refine lv_iload_n hx hb dX5_equal_15 rfl (lv_at hl 1 rfl) ?_
      refine lv_icmp_eq (tgt := 33) hx hb dX5_equal_16 (by decide) (fun h5 => ?_) (fun h5 => ?_)
      · skip
        refine lv_iconst (v := 1) hx hb dX5_equal_33 (by decide) ?_
        refine lv_goto (tgt := 38) hx hb dX5_equal_34 (by decide) ?_
        exact W.zret (v := 1) hx hb hr (rfl) (fun t ht hW => ⟨1, rfl, by first | (simp only [pm_eq, h2, h4, h5, ↓reduceIte, not_true_eq_false, not_false_eq_true, and_true, true_and, and_false, false_and, or_true, true_or, or_false, false_or, and_self, or_self]; done) | (simp [pm_eq, h2, h4, h5]; done) | (simp_all [pm_eq]; done), ht⟩) (fun q hq => by cases hq) dX5_equal_38
      · skip
        refine lv_iload_n hx hb dX5_equal_19 rfl (lv_at hl 0 rfl) ?_
        refine vp_callSi (W.runS (As := [.int x]) (rest := []) ⟨hx, hb, hml, hown, hts⟩ (ctX5_zero l x) (va_cwS 1 hts (wA_wsS wm_ml_X5_55 wm_st_X5_zero wm_in_X5 wm_cd_X5_zero) rfl rfl rfl (by decide +kernel) ⟨Nat.le_of_ble_eq_true rfl, Nat.le_of_ble_eq_true rfl⟩) ⟨fun a U g mk q => q, fun U hU hW => ⟨rfl, trivial⟩⟩ rfl rfl hl.1 rfl (lv_room (Nat.le_of_ble_eq_true rfl)) dX5_equal_20 ⟨Nat.zero_le _, Nat.zero_le _⟩) (fun r6 er6 => ?_)
        subst er6
        refine lv_if_eq (tgt := 37) hx hb dX5_equal_23 (by decide) (fun h7 => ?_) (fun h7 => ?_)
        · skip
          refine lv_iconst (v := 0) hx hb dX5_equal_37 (by decide) ?_
          exact W.zret (v := 0) hx hb hr (rfl) (fun t ht hW => ⟨0, rfl, by first | (simp only [pm_eq, h2, h4, h5, h7, ↓reduceIte, not_true_eq_false, not_false_eq_true, and_true, true_and, and_false, false_and, or_true, true_or, or_false, false_or, and_self, or_self]; done) | (simp [pm_eq, h2, h4, h5, h7]; done) | (simp_all [pm_eq]; done), ht⟩) (fun q hq => by cases hq) dX5_equal_38
        · skip
          refine lv_iload_n hx hb dX5_equal_26 rfl (lv_at hl 1 rfl) ?_
          refine vp_callSi (W.runS (As := [.int y]) (rest := []) ⟨hx, hb, hml, hown, hts⟩ (ctX5_zero l y) (va_cwS 1 hts (wA_wsS wm_ml_X5_55 wm_st_X5_zero wm_in_X5 wm_cd_X5_zero) rfl rfl rfl (by decide +kernel) ⟨Nat.le_of_ble_eq_true rfl, Nat.le_of_ble_eq_true rfl⟩) ⟨fun a U g mk q => q, fun U hU hW => ⟨rfl, trivial⟩⟩ rfl rfl hl.1 rfl (lv_room (Nat.le_of_ble_eq_true rfl)) dX5_equal_27 ⟨Nat.zero_le _, Nat.zero_le _⟩) (fun r8 er8 => ?_)
          subst er8
          refine lv_if_eq (tgt := 37) hx hb dX5_equal_30 (by decide) (fun h9 => ?_) (fun h9 => ?_)
          · skip
            refine lv_iconst (v := 0) hx hb dX5_equal_37 (by decide) ?_
            exact W.zret (v := 0) hx hb hr (rfl) (fun t ht hW => ⟨0, rfl, by first | (simp only [pm_eq, h2, h4, h5, h7, h9, ↓reduceIte, not_true_eq_false, not_false_eq_true, and_true, true_and, and_false, false_and, or_true, true_or, or_false, false_or, and_self, or_self]; done) | (simp [pm_eq, h2, h4, h5, h7, h9]; done) | (simp_all [pm_eq]; done), ht⟩) (fun q hq => by cases hq) dX5_equal_38
          · skip
            refine lv_iconst (v := 1) hx hb dX5_equal_33 (by decide) ?_
            refine lv_goto (tgt := 38) hx hb dX5_equal_34 (by decide) ?_
            exact W.zret (v := 1) hx hb hr (rfl) (fun t ht hW => ⟨1, rfl, by first | (simp only [pm_eq, h2, h4, h5, h7, h9, ↓reduceIte, not_true_eq_false, not_false_eq_true, and_true, true_and, and_false, false_and, or_true, true_or, or_false, false_or, and_self, or_self]; done) | (simp [pm_eq, h2, h4, h5, h7, h9]; done) | (simp_all [pm_eq]; done), ht⟩) (fun q hq => by cases hq) dX5_equal_38
set_option maxHeartbeats 4000000 in
set_option maxRecDepth 100000 in
theorem ctX5_less (l : Launch) (x y : Int32) : Met l yX5_less wsX5_less ({ frames := 2, cells := 0, slots := 0, locals := 41 }) (va_Pc [.int x, .int y] (fun _ => True)) (vp_Si (fun r => r = pm_les x y)) 0 0 (fun _ => False) := by
  refine Met.ofW (cc := cX5_less) (maxL := 2) (ret := (some .boolean)) (by decide) rfl ?_
  intro p e s m args below meth c s₁ B hml hv
  obtain ⟨rfl, -⟩ := hv
  have hx := B.exec
  have hb := B.bytes
  have hr := B.returns
  have hts := atoms_spec (ws := wsX5_less) B.pre
  have hown : s.vm.findClass RX5 = some m.cls := findClass_of_methodNamed B.named
  have hlocks := B.notSynchronized
  have hl := lv_entry ([.int x, .int y]) (n := 2) (Nat.le_of_ble_eq_true rfl)
  rw [lg_entry_eq]
  generalize (lg_sl ([.int x, .int y]) ++ List.replicate (2 - (lg_sl ([.int x, .int y])).length) Slot.unset).toArray = ls at hl ⊢
  have hl : lv_has ls 2 [(0, .int x), (1, .int y)] := hl
  refine lv_iload_n hx hb dX5_less_0 rfl (lv_at hl 0 rfl) ?_
  refine vp_callSi (W.runS (As := [.int x]) (rest := []) ⟨hx, hb, hml, hown, hts⟩ (ctX5_nan l x) (va_cwS 1 hts (wA_wsS wm_ml_X5_46 wm_st_X5_nan wm_in_X5 wm_cd_X5_nan) rfl rfl rfl (by decide +kernel) ⟨Nat.le_of_ble_eq_true rfl, Nat.le_of_ble_eq_true rfl⟩) ⟨fun a U g mk q => q, fun U hU hW => ⟨rfl, trivial⟩⟩ rfl rfl hl.1 rfl (lv_room (Nat.le_of_ble_eq_true rfl)) dX5_less_1 ⟨Nat.zero_le _, Nat.zero_le _⟩) (fun r1 er1 => ?_)
  subst er1
  refine lv_if_ne (tgt := 29) hx hb dX5_less_4 (by decide) (fun h2 => ?_) (fun h2 => ?_)
  · skip
    refine lv_iconst (v := 0) hx hb dX5_less_29 (by decide) ?_
    exact W.zret (v := 0) hx hb hr (rfl) (fun t ht hW => ⟨0, rfl, by first | (simp only [pm_les, h2, ↓reduceIte, not_true_eq_false, not_false_eq_true, and_true, true_and, and_false, false_and, or_true, true_or, or_false, false_or, and_self, or_self]; done) | (simp [pm_les, h2]; done) | (simp_all [pm_les]; done), ht⟩) (fun q hq => by cases hq) dX5_less_30
  · skip
    refine lv_iload_n hx hb dX5_less_7 rfl (lv_at hl 1 rfl) ?_
    refine vp_callSi (W.runS (As := [.int y]) (rest := []) ⟨hx, hb, hml, hown, hts⟩ (ctX5_nan l y) (va_cwS 1 hts (wA_wsS wm_ml_X5_46 wm_st_X5_nan wm_in_X5 wm_cd_X5_nan) rfl rfl rfl (by decide +kernel) ⟨Nat.le_of_ble_eq_true rfl, Nat.le_of_ble_eq_true rfl⟩) ⟨fun a U g mk q => q, fun U hU hW => ⟨rfl, trivial⟩⟩ rfl rfl hl.1 rfl (lv_room (Nat.le_of_ble_eq_true rfl)) dX5_less_8 ⟨Nat.zero_le _, Nat.zero_le _⟩) (fun r3 er3 => ?_)
    subst er3
    refine lv_if_ne (tgt := 29) hx hb dX5_less_11 (by decide) (fun h4 => ?_) (fun h4 => ?_)
    · skip
      refine lv_iconst (v := 0) hx hb dX5_less_29 (by decide) ?_
      exact W.zret (v := 0) hx hb hr (rfl) (fun t ht hW => ⟨0, rfl, by first | (simp only [pm_les, h2, h4, ↓reduceIte, not_true_eq_false, not_false_eq_true, and_true, true_and, and_false, false_and, or_true, true_or, or_false, false_or, and_self, or_self]; done) | (simp [pm_les, h2, h4]; done) | (simp_all [pm_les]; done), ht⟩) (fun q hq => by cases hq) dX5_less_30
    · skip
      refine lv_iload_n hx hb dX5_less_14 rfl (lv_at hl 0 rfl) ?_
      refine vp_callSi (W.runS (As := [.int x]) (rest := []) ⟨hx, hb, hml, hown, hts⟩ (ctX5_worthOf l x) (va_cwS 1 hts (wA_wsS wm_ml_X5_49 wm_st_X5_worthOf wm_in_X5 wm_cd_X5_worthOf) rfl rfl rfl (by decide +kernel) ⟨Nat.le_of_ble_eq_true rfl, Nat.le_of_ble_eq_true rfl⟩) ⟨fun a U g mk q => q, fun U hU hW => ⟨rfl, trivial⟩⟩ rfl rfl hl.1 rfl (lv_room (Nat.le_of_ble_eq_true rfl)) dX5_less_15 ⟨Nat.zero_le _, Nat.zero_le _⟩) (fun r5 er5 => ?_)
      subst er5
      refine lv_iload_n hx hb dX5_less_18 rfl (lv_at hl 1 rfl) ?_
      refine vp_callSi (W.runS (As := [.int y]) (rest := [.int (pm_wor x)]) ⟨hx, hb, hml, hown, hts⟩ (ctX5_worthOf l y) (va_cwS 1 hts (wA_wsS wm_ml_X5_49 wm_st_X5_worthOf wm_in_X5 wm_cd_X5_worthOf) rfl rfl rfl (by decide +kernel) ⟨Nat.le_of_ble_eq_true rfl, Nat.le_of_ble_eq_true rfl⟩) ⟨fun a U g mk q => q, fun U hU hW => ⟨rfl, trivial⟩⟩ rfl rfl hl.1 rfl (lv_room (Nat.le_of_ble_eq_true rfl)) dX5_less_19 ⟨Nat.zero_le _, Nat.zero_le _⟩) (fun r6 er6 => ?_)
      subst er6
      refine lv_icmp_ge (tgt := 29) hx hb dX5_less_22 (by decide) (fun h7 => ?_) (fun h7 => ?_)
      · skip
        have h7b := Int32.not_lt.mpr h7
        refine lv_iconst (v := 0) hx hb dX5_less_29 (by decide) ?_
        exact W.zret (v := 0) hx hb hr (rfl) (fun t ht hW => ⟨0, rfl, by first | (simp only [pm_les, h2, h4, h7, h7b, ↓reduceIte, not_true_eq_false, not_false_eq_true, and_true, true_and, and_false, false_and, or_true, true_or, or_false, false_or, and_self, or_self]; done) | (simp [pm_les, h2, h4, h7, h7b]; done) | (simp_all [pm_les]; done), ht⟩) (fun q hq => by cases hq) dX5_less_30
      · skip
        have h7b := Int32.not_le.mp h7
        refine lv_iconst (v := 1) hx hb dX5_less_25 (by decide) ?_
        refine lv_goto (tgt := 30) hx hb dX5_less_26 (by decide) ?_
        exact W.zret (v := 1) hx hb hr (rfl) (fun t ht hW => ⟨1, rfl, by first | (simp only [pm_les, h2, h4, h7, h7b, ↓reduceIte, not_true_eq_false, not_false_eq_true, and_true, true_and, and_false, false_and, or_true, true_or, or_false, false_or, and_self, or_self]; done) | (simp [pm_les, h2, h4, h7, h7b]; done) | (simp_all [pm_les]; done), ht⟩) (fun q hq => by cases hq) dX5_less_30
set_option maxHeartbeats 4000000 in
set_option maxRecDepth 100000 in
theorem ctX1_isNumber (l : Launch) (x : Int32) : Met l yX1_isNumber wsX1_isNumber ({ frames := 0, cells := 0, slots := 0, locals := 0 }) (va_Pc [.int x] (fun _ => True)) (vp_Si (fun r => r = pu_isn x)) 0 0 (fun _ => False) := by
  refine Met.ofW (cc := cX1_isNumber) (maxL := 1) (ret := (some .boolean)) (by decide) rfl ?_
  intro p e s m args below meth c s₁ B hml hv
  obtain ⟨rfl, -⟩ := hv
  have hx := B.exec
  have hb := B.bytes
  have hr := B.returns
  have hts := atoms_spec (ws := wsX1_isNumber) B.pre
  have hown : s.vm.findClass RX1 = some m.cls := findClass_of_methodNamed B.named
  have hlocks := B.notSynchronized
  have hl := lv_entry ([.int x]) (n := 1) (Nat.le_of_ble_eq_true rfl)
  rw [lg_entry_eq]
  generalize (lg_sl ([.int x]) ++ List.replicate (1 - (lg_sl ([.int x])).length) Slot.unset).toArray = ls at hl ⊢
  have hl : lv_has ls 1 [(0, .int x)] := hl
  refine lv_iload_n hx hb dX1_isNumber_0 rfl (lv_at hl 0 rfl) ?_
  refine lv_if_lt (tgt := 14) hx hb dX1_isNumber_1 (by decide) (fun h1 => ?_) (fun h1 => ?_)
  · skip
    have h1b := Int32.not_le.mpr h1
    refine lv_iconst (v := 0) hx hb dX1_isNumber_14 (by decide) ?_
    exact W.zret (v := 0) hx hb hr (rfl) (fun t ht hW => ⟨0, rfl, by first | (simp only [pu_isn, h1, h1b, ↓reduceIte, not_true_eq_false, not_false_eq_true, and_true, true_and, and_false, false_and, or_true, true_or, or_false, false_or, and_self, or_self]; done) | (simp [pu_isn, h1, h1b]; done) | (simp_all [pu_isn]; done), ht⟩) (fun q hq => by cases hq) dX1_isNumber_15
  · skip
    have h1b := Int32.not_lt.mp h1
    refine lv_iload_n hx hb dX1_isNumber_4 rfl (lv_at hl 0 rfl) ?_
    refine lv_bipush (v := 31) hx hb dX1_isNumber_5 (by decide) ?_
    refine lv_icmp_gt (tgt := 14) hx hb dX1_isNumber_7 (by decide) (fun h2 => ?_) (fun h2 => ?_)
    · skip
      have h2b := Int32.not_le.mpr h2
      refine lv_iconst (v := 0) hx hb dX1_isNumber_14 (by decide) ?_
      exact W.zret (v := 0) hx hb hr (rfl) (fun t ht hW => ⟨0, rfl, by first | (simp only [pu_isn, h1, h1b, h2, h2b, ↓reduceIte, not_true_eq_false, not_false_eq_true, and_true, true_and, and_false, false_and, or_true, true_or, or_false, false_or, and_self, or_self]; done) | (simp [pu_isn, h1, h1b, h2, h2b]; done) | (simp_all [pu_isn]; done), ht⟩) (fun q hq => by cases hq) dX1_isNumber_15
    · skip
      have h2b := Int32.not_lt.mp h2
      refine lv_iconst (v := 1) hx hb dX1_isNumber_10 (by decide) ?_
      refine lv_goto (tgt := 15) hx hb dX1_isNumber_11 (by decide) ?_
      exact W.zret (v := 1) hx hb hr (rfl) (fun t ht hW => ⟨1, rfl, by first | (simp only [pu_isn, h1, h1b, h2, h2b, ↓reduceIte, not_true_eq_false, not_false_eq_true, and_true, true_and, and_false, false_and, or_true, true_or, or_false, false_or, and_self, or_self]; done) | (simp [pu_isn, h1, h1b, h2, h2b]; done) | (simp_all [pu_isn]; done), ht⟩) (fun q hq => by cases hq) dX1_isNumber_15
set_option maxHeartbeats 4000000 in
set_option maxRecDepth 100000 in
theorem ctX1_isOperation (l : Launch) (k : Int32) : Met l yX1_isOperation wsX1_isOperation ({ frames := 0, cells := 0, slots := 0, locals := 0 }) (va_Pc [.int k] (fun _ => True)) (vp_Si (fun r => r = pu_iso k)) 0 0 (fun _ => False) := by
  refine Met.ofW (cc := cX1_isOperation) (maxL := 1) (ret := (some .boolean)) (by decide) rfl ?_
  intro p e s m args below meth c s₁ B hml hv
  obtain ⟨rfl, -⟩ := hv
  have hx := B.exec
  have hb := B.bytes
  have hr := B.returns
  have hts := atoms_spec (ws := wsX1_isOperation) B.pre
  have hown : s.vm.findClass RX1 = some m.cls := findClass_of_methodNamed B.named
  have hlocks := B.notSynchronized
  have hl := lv_entry ([.int k]) (n := 1) (Nat.le_of_ble_eq_true rfl)
  rw [lg_entry_eq]
  generalize (lg_sl ([.int k]) ++ List.replicate (1 - (lg_sl ([.int k])).length) Slot.unset).toArray = ls at hl ⊢
  have hl : lv_has ls 1 [(0, .int k)] := hl
  refine lv_iload_n hx hb dX1_isOperation_0 rfl (lv_at hl 0 rfl) ?_
  refine lv_iconst (v := 2) hx hb dX1_isOperation_1 (by decide) ?_
  refine lv_icmp_lt (tgt := 21) hx hb dX1_isOperation_2 (by decide) (fun h1 => ?_) (fun h1 => ?_)
  · skip
    have h1b := Int32.not_le.mpr h1
    refine lv_iconst (v := 0) hx hb dX1_isOperation_21 (by decide) ?_
    exact W.zret (v := 0) hx hb hr (rfl) (fun t ht hW => ⟨0, rfl, by first | (simp only [pu_iso, h1, h1b, ↓reduceIte, not_true_eq_false, not_false_eq_true, and_true, true_and, and_false, false_and, or_true, true_or, or_false, false_or, and_self, or_self]; done) | (simp [pu_iso, h1, h1b]; done) | (simp_all [pu_iso]; done), ht⟩) (fun q hq => by cases hq) dX1_isOperation_22
  · skip
    have h1b := Int32.not_lt.mp h1
    refine lv_iload_n hx hb dX1_isOperation_5 rfl (lv_at hl 0 rfl) ?_
    refine lv_bipush (v := 16) hx hb dX1_isOperation_6 (by decide) ?_
    refine lv_icmp_gt (tgt := 21) hx hb dX1_isOperation_8 (by decide) (fun h2 => ?_) (fun h2 => ?_)
    · skip
      have h2b := Int32.not_le.mpr h2
      refine lv_iconst (v := 0) hx hb dX1_isOperation_21 (by decide) ?_
      exact W.zret (v := 0) hx hb hr (rfl) (fun t ht hW => ⟨0, rfl, by first | (simp only [pu_iso, h1, h1b, h2, h2b, ↓reduceIte, not_true_eq_false, not_false_eq_true, and_true, true_and, and_false, false_and, or_true, true_or, or_false, false_or, and_self, or_self]; done) | (simp [pu_iso, h1, h1b, h2, h2b]; done) | (simp_all [pu_iso]; done), ht⟩) (fun q hq => by cases hq) dX1_isOperation_22
    · skip
      have h2b := Int32.not_lt.mp h2
      refine lv_iload_n hx hb dX1_isOperation_11 rfl (lv_at hl 0 rfl) ?_
      refine lv_bipush (v := 9) hx hb dX1_isOperation_12 (by decide) ?_
      refine lv_icmp_eq (tgt := 21) hx hb dX1_isOperation_14 (by decide) (fun h3 => ?_) (fun h3 => ?_)
      · skip
        refine lv_iconst (v := 0) hx hb dX1_isOperation_21 (by decide) ?_
        exact W.zret (v := 0) hx hb hr (rfl) (fun t ht hW => ⟨0, rfl, by first | (simp only [pu_iso, h1, h1b, h2, h2b, h3, ↓reduceIte, not_true_eq_false, not_false_eq_true, and_true, true_and, and_false, false_and, or_true, true_or, or_false, false_or, and_self, or_self]; done) | (simp [pu_iso, h1, h1b, h2, h2b, h3]; done) | (simp_all [pu_iso]; done), ht⟩) (fun q hq => by cases hq) dX1_isOperation_22
      · skip
        refine lv_iconst (v := 1) hx hb dX1_isOperation_17 (by decide) ?_
        refine lv_goto (tgt := 22) hx hb dX1_isOperation_18 (by decide) ?_
        exact W.zret (v := 1) hx hb hr (rfl) (fun t ht hW => ⟨1, rfl, by first | (simp only [pu_iso, h1, h1b, h2, h2b, h3, ↓reduceIte, not_true_eq_false, not_false_eq_true, and_true, true_and, and_false, false_and, or_true, true_or, or_false, false_or, and_self, or_self]; done) | (simp [pu_iso, h1, h1b, h2, h2b, h3]; done) | (simp_all [pu_iso]; done), ht⟩) (fun q hq => by cases hq) dX1_isOperation_22
set_option maxHeartbeats 4000000 in
set_option maxRecDepth 100000 in
theorem ctX2_isKind (l : Launch) (k : Int32) : Met l yX2_isKind wsX2_isKind ({ frames := 0, cells := 0, slots := 0, locals := 0 }) (va_Pc [.int k] (fun _ => True)) (vp_Si (fun r => r = px_knd k)) 0 0 (fun _ => False) := by
  refine Met.ofW (cc := cX2_isKind) (maxL := 1) (ret := (some .boolean)) (by decide) rfl ?_
  intro p e s m args below meth c s₁ B hml hv
  obtain ⟨rfl, -⟩ := hv
  have hx := B.exec
  have hb := B.bytes
  have hr := B.returns
  have hts := atoms_spec (ws := wsX2_isKind) B.pre
  have hown : s.vm.findClass RX2 = some m.cls := findClass_of_methodNamed B.named
  have hlocks := B.notSynchronized
  have hl := lv_entry ([.int k]) (n := 1) (Nat.le_of_ble_eq_true rfl)
  rw [lg_entry_eq]
  generalize (lg_sl ([.int k]) ++ List.replicate (1 - (lg_sl ([.int k])).length) Slot.unset).toArray = ls at hl ⊢
  have hl : lv_has ls 1 [(0, .int k)] := hl
  refine lv_iload_n hx hb dX2_isKind_0 rfl (lv_at hl 0 rfl) ?_
  refine lv_if_lt (tgt := 14) hx hb dX2_isKind_1 (by decide) (fun h1 => ?_) (fun h1 => ?_)
  · skip
    have h1b := Int32.not_le.mpr h1
    refine lv_iconst (v := 0) hx hb dX2_isKind_14 (by decide) ?_
    exact W.zret (v := 0) hx hb hr (rfl) (fun t ht hW => ⟨0, rfl, by first | (simp only [px_knd, h1, h1b, ↓reduceIte, not_true_eq_false, not_false_eq_true, and_true, true_and, and_false, false_and, or_true, true_or, or_false, false_or, and_self, or_self]; done) | (simp [px_knd, h1, h1b]; done) | (simp_all [px_knd]; done), ht⟩) (fun q hq => by cases hq) dX2_isKind_15
  · skip
    have h1b := Int32.not_lt.mp h1
    refine lv_iload_n hx hb dX2_isKind_4 rfl (lv_at hl 0 rfl) ?_
    refine lv_bipush (v := 19) hx hb dX2_isKind_5 (by decide) ?_
    refine lv_icmp_gt (tgt := 14) hx hb dX2_isKind_7 (by decide) (fun h2 => ?_) (fun h2 => ?_)
    · skip
      have h2b := Int32.not_le.mpr h2
      refine lv_iconst (v := 0) hx hb dX2_isKind_14 (by decide) ?_
      exact W.zret (v := 0) hx hb hr (rfl) (fun t ht hW => ⟨0, rfl, by first | (simp only [px_knd, h1, h1b, h2, h2b, ↓reduceIte, not_true_eq_false, not_false_eq_true, and_true, true_and, and_false, false_and, or_true, true_or, or_false, false_or, and_self, or_self]; done) | (simp [px_knd, h1, h1b, h2, h2b]; done) | (simp_all [px_knd]; done), ht⟩) (fun q hq => by cases hq) dX2_isKind_15
    · skip
      have h2b := Int32.not_lt.mp h2
      refine lv_iconst (v := 1) hx hb dX2_isKind_10 (by decide) ?_
      refine lv_goto (tgt := 15) hx hb dX2_isKind_11 (by decide) ?_
      exact W.zret (v := 1) hx hb hr (rfl) (fun t ht hW => ⟨1, rfl, by first | (simp only [px_knd, h1, h1b, h2, h2b, ↓reduceIte, not_true_eq_false, not_false_eq_true, and_true, true_and, and_false, false_and, or_true, true_or, or_false, false_or, and_self, or_self]; done) | (simp [px_knd, h1, h1b, h2, h2b]; done) | (simp_all [px_knd]; done), ht⟩) (fun q hq => by cases hq) dX2_isKind_15
set_option maxHeartbeats 4000000 in
set_option maxRecDepth 100000 in
theorem ctX2_givesTruth (l : Launch) (k : Int32) : Met l yX2_givesTruth wsX2_givesTruth ({ frames := 0, cells := 0, slots := 0, locals := 0 }) (va_Pc [.int k] (fun _ => True)) (vp_Si (fun r => r = px_tru k)) 0 0 (fun _ => False) := by
  refine Met.ofW (cc := cX2_givesTruth) (maxL := 1) (ret := (some .boolean)) (by decide) rfl ?_
  intro p e s m args below meth c s₁ B hml hv
  obtain ⟨rfl, -⟩ := hv
  have hx := B.exec
  have hb := B.bytes
  have hr := B.returns
  have hts := atoms_spec (ws := wsX2_givesTruth) B.pre
  have hown : s.vm.findClass RX2 = some m.cls := findClass_of_methodNamed B.named
  have hlocks := B.notSynchronized
  have hl := lv_entry ([.int k]) (n := 1) (Nat.le_of_ble_eq_true rfl)
  rw [lg_entry_eq]
  generalize (lg_sl ([.int k]) ++ List.replicate (1 - (lg_sl ([.int k])).length) Slot.unset).toArray = ls at hl ⊢
  have hl : lv_has ls 1 [(0, .int k)] := hl
  refine lv_iload_n hx hb dX2_givesTruth_0 rfl (lv_at hl 0 rfl) ?_
  refine lv_bipush (v := 10) hx hb dX2_givesTruth_1 (by decide) ?_
  refine lv_icmp_lt (tgt := 16) hx hb dX2_givesTruth_3 (by decide) (fun h1 => ?_) (fun h1 => ?_)
  · skip
    have h1b := Int32.not_le.mpr h1
    refine lv_iconst (v := 0) hx hb dX2_givesTruth_16 (by decide) ?_
    exact W.zret (v := 0) hx hb hr (rfl) (fun t ht hW => ⟨0, rfl, by first | (simp only [px_tru, h1, h1b, ↓reduceIte, not_true_eq_false, not_false_eq_true, and_true, true_and, and_false, false_and, or_true, true_or, or_false, false_or, and_self, or_self]; done) | (simp [px_tru, h1, h1b]; done) | (simp_all [px_tru]; done), ht⟩) (fun q hq => by cases hq) dX2_givesTruth_17
  · skip
    have h1b := Int32.not_lt.mp h1
    refine lv_iload_n hx hb dX2_givesTruth_6 rfl (lv_at hl 0 rfl) ?_
    refine lv_bipush (v := 19) hx hb dX2_givesTruth_7 (by decide) ?_
    refine lv_icmp_gt (tgt := 16) hx hb dX2_givesTruth_9 (by decide) (fun h2 => ?_) (fun h2 => ?_)
    · skip
      have h2b := Int32.not_le.mpr h2
      refine lv_iconst (v := 0) hx hb dX2_givesTruth_16 (by decide) ?_
      exact W.zret (v := 0) hx hb hr (rfl) (fun t ht hW => ⟨0, rfl, by first | (simp only [px_tru, h1, h1b, h2, h2b, ↓reduceIte, not_true_eq_false, not_false_eq_true, and_true, true_and, and_false, false_and, or_true, true_or, or_false, false_or, and_self, or_self]; done) | (simp [px_tru, h1, h1b, h2, h2b]; done) | (simp_all [px_tru]; done), ht⟩) (fun q hq => by cases hq) dX2_givesTruth_17
    · skip
      have h2b := Int32.not_lt.mp h2
      refine lv_iconst (v := 1) hx hb dX2_givesTruth_12 (by decide) ?_
      refine lv_goto (tgt := 17) hx hb dX2_givesTruth_13 (by decide) ?_
      exact W.zret (v := 1) hx hb hr (rfl) (fun t ht hW => ⟨1, rfl, by first | (simp only [px_tru, h1, h1b, h2, h2b, ↓reduceIte, not_true_eq_false, not_false_eq_true, and_true, true_and, and_false, false_and, or_true, true_or, or_false, false_or, and_self, or_self]; done) | (simp [px_tru, h1, h1b, h2, h2b]; done) | (simp_all [px_tru]; done), ht⟩) (fun q hq => by cases hq) dX2_givesTruth_17
set_option maxHeartbeats 4000000 in
set_option maxRecDepth 100000 in
theorem ctX2_ofFirst (l : Launch) (k : Int32) : Met l yX2_ofFirst wsX2_ofFirst ({ frames := 0, cells := 0, slots := 0, locals := 0 }) (va_Pc [.int k] (fun _ => True)) (vp_Si (fun r => r = px_s1 k)) 0 0 (fun _ => False) := by
  refine Met.ofW (cc := cX2_ofFirst) (maxL := 1) (ret := (some .int)) (by decide) rfl ?_
  intro p e s m args below meth c s₁ B hml hv
  obtain ⟨rfl, -⟩ := hv
  have hx := B.exec
  have hb := B.bytes
  have hr := B.returns
  have hts := atoms_spec (ws := wsX2_ofFirst) B.pre
  have hown : s.vm.findClass RX2 = some m.cls := findClass_of_methodNamed B.named
  have hlocks := B.notSynchronized
  have hl := lv_entry ([.int k]) (n := 1) (Nat.le_of_ble_eq_true rfl)
  rw [lg_entry_eq]
  generalize (lg_sl ([.int k]) ++ List.replicate (1 - (lg_sl ([.int k])).length) Slot.unset).toArray = ls at hl ⊢
  have hl : lv_has ls 1 [(0, .int k)] := hl
  refine lv_iload_n hx hb dX2_ofFirst_0 rfl (lv_at hl 0 rfl) ?_
  by_cases k1 : k = 0
  · refine lv_tableIn (off := 95) (tgt := 96) hx hb dX2_ofFirst_1 (by rw [k1]; decide) (by rw [k1]; decide) (by rw [k1]; rfl) (by decide) ?_
    refine lv_iconst (v := 1) hx hb dX2_ofFirst_96 (by decide) ?_
    exact W.iret (v := 1) hx hb hr (fun t ht hW => ⟨1, rfl, by first | (subst k1; simp [px_s1, pu_nan]; done) | (simp [px_s1, k1]; done) | (subst k1; simp_all [px_s1]; done) | (simp_all [px_s1]; done), ht⟩) (fun q hq => by cases hq) dX2_ofFirst_97
  by_cases k2 : k = 1
  · refine lv_tableIn (off := 97) (tgt := 98) hx hb dX2_ofFirst_1 (by rw [k2]; decide) (by rw [k2]; decide) (by rw [k2]; rfl) (by decide) ?_
    refine lv_iconst (v := 2) hx hb dX2_ofFirst_98 (by decide) ?_
    exact W.iret (v := 2) hx hb hr (fun t ht hW => ⟨2, rfl, by first | (subst k2; simp [px_s1, pu_nan]; done) | (simp [px_s1, k1, k2]; done) | (subst k2; simp_all [px_s1]; done) | (simp_all [px_s1]; done), ht⟩) (fun q hq => by cases hq) dX2_ofFirst_99
  by_cases k3 : k = 9
  · refine lv_tableIn (off := 99) (tgt := 100) hx hb dX2_ofFirst_1 (by rw [k3]; decide) (by rw [k3]; decide) (by rw [k3]; rfl) (by decide) ?_
    refine lv_iconst (v := 4) hx hb dX2_ofFirst_100 (by decide) ?_
    exact W.iret (v := 4) hx hb hr (fun t ht hW => ⟨4, rfl, by first | (subst k3; simp [px_s1, pu_nan]; done) | (simp [px_s1, k1, k2, k3]; done) | (subst k3; simp_all [px_s1]; done) | (simp_all [px_s1]; done), ht⟩) (fun q hq => by cases hq) dX2_ofFirst_101
  by_cases k4 : k = 17
  · refine lv_tableIn (off := 99) (tgt := 100) hx hb dX2_ofFirst_1 (by rw [k4]; decide) (by rw [k4]; decide) (by rw [k4]; rfl) (by decide) ?_
    refine lv_iconst (v := 4) hx hb dX2_ofFirst_100 (by decide) ?_
    exact W.iret (v := 4) hx hb hr (fun t ht hW => ⟨4, rfl, by first | (subst k4; simp [px_s1, pu_nan]; done) | (simp [px_s1, k1, k2, k3, k4]; done) | (subst k4; simp_all [px_s1]; done) | (simp_all [px_s1]; done), ht⟩) (fun q hq => by cases hq) dX2_ofFirst_101
  by_cases k5 : k = 18
  · refine lv_tableIn (off := 99) (tgt := 100) hx hb dX2_ofFirst_1 (by rw [k5]; decide) (by rw [k5]; decide) (by rw [k5]; rfl) (by decide) ?_
    refine lv_iconst (v := 4) hx hb dX2_ofFirst_100 (by decide) ?_
    exact W.iret (v := 4) hx hb hr (fun t ht hW => ⟨4, rfl, by first | (subst k5; simp [px_s1, pu_nan]; done) | (simp [px_s1, k1, k2, k3, k4, k5]; done) | (subst k5; simp_all [px_s1]; done) | (simp_all [px_s1]; done), ht⟩) (fun q hq => by cases hq) dX2_ofFirst_101
  by_cases k6 : k = 19
  · refine lv_tableIn (off := 99) (tgt := 100) hx hb dX2_ofFirst_1 (by rw [k6]; decide) (by rw [k6]; decide) (by rw [k6]; rfl) (by decide) ?_
    refine lv_iconst (v := 4) hx hb dX2_ofFirst_100 (by decide) ?_
    exact W.iret (v := 4) hx hb hr (fun t ht hW => ⟨4, rfl, by first | (subst k6; simp [px_s1, pu_nan]; done) | (simp [px_s1, k1, k2, k3, k4, k5, k6]; done) | (subst k6; simp_all [px_s1]; done) | (simp_all [px_s1]; done), ht⟩) (fun q hq => by cases hq) dX2_ofFirst_101
  by_cases k7 : k = 2
  · refine lv_tableIn (off := 101) (tgt := 102) hx hb dX2_ofFirst_1 (by rw [k7]; decide) (by rw [k7]; decide) (by rw [k7]; rfl) (by decide) ?_
    refine lv_iconst (v := 3) hx hb dX2_ofFirst_102 (by decide) ?_
    exact W.iret (v := 3) hx hb hr (fun t ht hW => ⟨3, rfl, by first | (subst k7; simp [px_s1, pu_nan]; done) | (simp [px_s1, k1, k2, k3, k4, k5, k6, k7]; done) | (subst k7; simp_all [px_s1]; done) | (simp_all [px_s1]; done), ht⟩) (fun q hq => by cases hq) dX2_ofFirst_103
  by_cases k8 : k = 3
  · refine lv_tableIn (off := 101) (tgt := 102) hx hb dX2_ofFirst_1 (by rw [k8]; decide) (by rw [k8]; decide) (by rw [k8]; rfl) (by decide) ?_
    refine lv_iconst (v := 3) hx hb dX2_ofFirst_102 (by decide) ?_
    exact W.iret (v := 3) hx hb hr (fun t ht hW => ⟨3, rfl, by first | (subst k8; simp [px_s1, pu_nan]; done) | (simp [px_s1, k1, k2, k3, k4, k5, k6, k7, k8]; done) | (subst k8; simp_all [px_s1]; done) | (simp_all [px_s1]; done), ht⟩) (fun q hq => by cases hq) dX2_ofFirst_103
  by_cases k9 : k = 4
  · refine lv_tableIn (off := 101) (tgt := 102) hx hb dX2_ofFirst_1 (by rw [k9]; decide) (by rw [k9]; decide) (by rw [k9]; rfl) (by decide) ?_
    refine lv_iconst (v := 3) hx hb dX2_ofFirst_102 (by decide) ?_
    exact W.iret (v := 3) hx hb hr (fun t ht hW => ⟨3, rfl, by first | (subst k9; simp [px_s1, pu_nan]; done) | (simp [px_s1, k1, k2, k3, k4, k5, k6, k7, k8, k9]; done) | (subst k9; simp_all [px_s1]; done) | (simp_all [px_s1]; done), ht⟩) (fun q hq => by cases hq) dX2_ofFirst_103
  by_cases k10 : k = 5
  · refine lv_tableIn (off := 101) (tgt := 102) hx hb dX2_ofFirst_1 (by rw [k10]; decide) (by rw [k10]; decide) (by rw [k10]; rfl) (by decide) ?_
    refine lv_iconst (v := 3) hx hb dX2_ofFirst_102 (by decide) ?_
    exact W.iret (v := 3) hx hb hr (fun t ht hW => ⟨3, rfl, by first | (subst k10; simp [px_s1, pu_nan]; done) | (simp [px_s1, k1, k2, k3, k4, k5, k6, k7, k8, k9, k10]; done) | (subst k10; simp_all [px_s1]; done) | (simp_all [px_s1]; done), ht⟩) (fun q hq => by cases hq) dX2_ofFirst_103
  by_cases k11 : k = 6
  · refine lv_tableIn (off := 101) (tgt := 102) hx hb dX2_ofFirst_1 (by rw [k11]; decide) (by rw [k11]; decide) (by rw [k11]; rfl) (by decide) ?_
    refine lv_iconst (v := 3) hx hb dX2_ofFirst_102 (by decide) ?_
    exact W.iret (v := 3) hx hb hr (fun t ht hW => ⟨3, rfl, by first | (subst k11; simp [px_s1, pu_nan]; done) | (simp [px_s1, k1, k2, k3, k4, k5, k6, k7, k8, k9, k10, k11]; done) | (subst k11; simp_all [px_s1]; done) | (simp_all [px_s1]; done), ht⟩) (fun q hq => by cases hq) dX2_ofFirst_103
  by_cases k12 : k = 7
  · refine lv_tableIn (off := 101) (tgt := 102) hx hb dX2_ofFirst_1 (by rw [k12]; decide) (by rw [k12]; decide) (by rw [k12]; rfl) (by decide) ?_
    refine lv_iconst (v := 3) hx hb dX2_ofFirst_102 (by decide) ?_
    exact W.iret (v := 3) hx hb hr (fun t ht hW => ⟨3, rfl, by first | (subst k12; simp [px_s1, pu_nan]; done) | (simp [px_s1, k1, k2, k3, k4, k5, k6, k7, k8, k9, k10, k11, k12]; done) | (subst k12; simp_all [px_s1]; done) | (simp_all [px_s1]; done), ht⟩) (fun q hq => by cases hq) dX2_ofFirst_103
  by_cases k13 : k = 8
  · refine lv_tableIn (off := 101) (tgt := 102) hx hb dX2_ofFirst_1 (by rw [k13]; decide) (by rw [k13]; decide) (by rw [k13]; rfl) (by decide) ?_
    refine lv_iconst (v := 3) hx hb dX2_ofFirst_102 (by decide) ?_
    exact W.iret (v := 3) hx hb hr (fun t ht hW => ⟨3, rfl, by first | (subst k13; simp [px_s1, pu_nan]; done) | (simp [px_s1, k1, k2, k3, k4, k5, k6, k7, k8, k9, k10, k11, k12, k13]; done) | (subst k13; simp_all [px_s1]; done) | (simp_all [px_s1]; done), ht⟩) (fun q hq => by cases hq) dX2_ofFirst_103
  by_cases k14 : k = 10
  · refine lv_tableIn (off := 101) (tgt := 102) hx hb dX2_ofFirst_1 (by rw [k14]; decide) (by rw [k14]; decide) (by rw [k14]; rfl) (by decide) ?_
    refine lv_iconst (v := 3) hx hb dX2_ofFirst_102 (by decide) ?_
    exact W.iret (v := 3) hx hb hr (fun t ht hW => ⟨3, rfl, by first | (subst k14; simp [px_s1, pu_nan]; done) | (simp [px_s1, k1, k2, k3, k4, k5, k6, k7, k8, k9, k10, k11, k12, k13, k14]; done) | (subst k14; simp_all [px_s1]; done) | (simp_all [px_s1]; done), ht⟩) (fun q hq => by cases hq) dX2_ofFirst_103
  by_cases k15 : k = 11
  · refine lv_tableIn (off := 101) (tgt := 102) hx hb dX2_ofFirst_1 (by rw [k15]; decide) (by rw [k15]; decide) (by rw [k15]; rfl) (by decide) ?_
    refine lv_iconst (v := 3) hx hb dX2_ofFirst_102 (by decide) ?_
    exact W.iret (v := 3) hx hb hr (fun t ht hW => ⟨3, rfl, by first | (subst k15; simp [px_s1, pu_nan]; done) | (simp [px_s1, k1, k2, k3, k4, k5, k6, k7, k8, k9, k10, k11, k12, k13, k14, k15]; done) | (subst k15; simp_all [px_s1]; done) | (simp_all [px_s1]; done), ht⟩) (fun q hq => by cases hq) dX2_ofFirst_103
  by_cases k16 : k = 12
  · refine lv_tableIn (off := 101) (tgt := 102) hx hb dX2_ofFirst_1 (by rw [k16]; decide) (by rw [k16]; decide) (by rw [k16]; rfl) (by decide) ?_
    refine lv_iconst (v := 3) hx hb dX2_ofFirst_102 (by decide) ?_
    exact W.iret (v := 3) hx hb hr (fun t ht hW => ⟨3, rfl, by first | (subst k16; simp [px_s1, pu_nan]; done) | (simp [px_s1, k1, k2, k3, k4, k5, k6, k7, k8, k9, k10, k11, k12, k13, k14, k15, k16]; done) | (subst k16; simp_all [px_s1]; done) | (simp_all [px_s1]; done), ht⟩) (fun q hq => by cases hq) dX2_ofFirst_103
  by_cases k17 : k = 13
  · refine lv_tableIn (off := 101) (tgt := 102) hx hb dX2_ofFirst_1 (by rw [k17]; decide) (by rw [k17]; decide) (by rw [k17]; rfl) (by decide) ?_
    refine lv_iconst (v := 3) hx hb dX2_ofFirst_102 (by decide) ?_
    exact W.iret (v := 3) hx hb hr (fun t ht hW => ⟨3, rfl, by first | (subst k17; simp [px_s1, pu_nan]; done) | (simp [px_s1, k1, k2, k3, k4, k5, k6, k7, k8, k9, k10, k11, k12, k13, k14, k15, k16, k17]; done) | (subst k17; simp_all [px_s1]; done) | (simp_all [px_s1]; done), ht⟩) (fun q hq => by cases hq) dX2_ofFirst_103
  by_cases k18 : k = 14
  · refine lv_tableIn (off := 101) (tgt := 102) hx hb dX2_ofFirst_1 (by rw [k18]; decide) (by rw [k18]; decide) (by rw [k18]; rfl) (by decide) ?_
    refine lv_iconst (v := 3) hx hb dX2_ofFirst_102 (by decide) ?_
    exact W.iret (v := 3) hx hb hr (fun t ht hW => ⟨3, rfl, by first | (subst k18; simp [px_s1, pu_nan]; done) | (simp [px_s1, k1, k2, k3, k4, k5, k6, k7, k8, k9, k10, k11, k12, k13, k14, k15, k16, k17, k18]; done) | (subst k18; simp_all [px_s1]; done) | (simp_all [px_s1]; done), ht⟩) (fun q hq => by cases hq) dX2_ofFirst_103
  by_cases k19 : k = 15
  · refine lv_tableIn (off := 101) (tgt := 102) hx hb dX2_ofFirst_1 (by rw [k19]; decide) (by rw [k19]; decide) (by rw [k19]; rfl) (by decide) ?_
    refine lv_iconst (v := 3) hx hb dX2_ofFirst_102 (by decide) ?_
    exact W.iret (v := 3) hx hb hr (fun t ht hW => ⟨3, rfl, by first | (subst k19; simp [px_s1, pu_nan]; done) | (simp [px_s1, k1, k2, k3, k4, k5, k6, k7, k8, k9, k10, k11, k12, k13, k14, k15, k16, k17, k18, k19]; done) | (subst k19; simp_all [px_s1]; done) | (simp_all [px_s1]; done), ht⟩) (fun q hq => by cases hq) dX2_ofFirst_103
  by_cases k20 : k = 16
  · refine lv_tableIn (off := 101) (tgt := 102) hx hb dX2_ofFirst_1 (by rw [k20]; decide) (by rw [k20]; decide) (by rw [k20]; rfl) (by decide) ?_
    refine lv_iconst (v := 3) hx hb dX2_ofFirst_102 (by decide) ?_
    exact W.iret (v := 3) hx hb hr (fun t ht hW => ⟨3, rfl, by first | (subst k20; simp [px_s1, pu_nan]; done) | (simp [px_s1, k1, k2, k3, k4, k5, k6, k7, k8, k9, k10, k11, k12, k13, k14, k15, k16, k17, k18, k19, k20]; done) | (subst k20; simp_all [px_s1]; done) | (simp_all [px_s1]; done), ht⟩) (fun q hq => by cases hq) dX2_ofFirst_103
  refine lv_tableOut (tgt := 102) hx hb dX2_ofFirst_1 (sw_out 0 19 (by decide) (fun j h1 h2 e => ?_)) (by decide) ?_
  · rcases (show j = 0 ∨ j = 1 ∨ j = 2 ∨ j = 3 ∨ j = 4 ∨ j = 5 ∨ j = 6 ∨ j = 7 ∨ j = 8 ∨ j = 9 ∨ j = 10 ∨ j = 11 ∨ j = 12 ∨ j = 13 ∨ j = 14 ∨ j = 15 ∨ j = 16 ∨ j = 17 ∨ j = 18 ∨ j = 19 by omega) with rfl | rfl | rfl | rfl | rfl | rfl | rfl | rfl | rfl | rfl | rfl | rfl | rfl | rfl | rfl | rfl | rfl | rfl | rfl | rfl
    · exact k1 e
    · exact k2 e
    · exact k7 e
    · exact k8 e
    · exact k9 e
    · exact k10 e
    · exact k11 e
    · exact k12 e
    · exact k13 e
    · exact k3 e
    · exact k14 e
    · exact k15 e
    · exact k16 e
    · exact k17 e
    · exact k18 e
    · exact k19 e
    · exact k20 e
    · exact k4 e
    · exact k5 e
    · exact k6 e
  refine lv_iconst (v := 3) hx hb dX2_ofFirst_102 (by decide) ?_
  exact W.iret (v := 3) hx hb hr (fun t ht hW => ⟨3, rfl, by first | (subst k20; simp [px_s1, pu_nan]; done) | (simp [px_s1, k1, k2, k3, k4, k5, k6, k7, k8, k9, k10, k11, k12, k13, k14, k15, k16, k17, k18, k19, k20]; done) | (subst k20; simp_all [px_s1]; done) | (simp_all [px_s1]; done), ht⟩) (fun q hq => by cases hq) dX2_ofFirst_103
set_option maxHeartbeats 4000000 in
set_option maxRecDepth 100000 in
theorem ctX2_ofSecond (l : Launch) (k : Int32) : Met l yX2_ofSecond wsX2_ofSecond ({ frames := 0, cells := 0, slots := 0, locals := 0 }) (va_Pc [.int k] (fun _ => True)) (vp_Si (fun r => r = px_s2 k)) 0 0 (fun _ => False) := by
  refine Met.ofW (cc := cX2_ofSecond) (maxL := 1) (ret := (some .int)) (by decide) rfl ?_
  intro p e s m args below meth c s₁ B hml hv
  obtain ⟨rfl, -⟩ := hv
  have hx := B.exec
  have hb := B.bytes
  have hr := B.returns
  have hts := atoms_spec (ws := wsX2_ofSecond) B.pre
  have hown : s.vm.findClass RX2 = some m.cls := findClass_of_methodNamed B.named
  have hlocks := B.notSynchronized
  have hl := lv_entry ([.int k]) (n := 1) (Nat.le_of_ble_eq_true rfl)
  rw [lg_entry_eq]
  generalize (lg_sl ([.int k]) ++ List.replicate (1 - (lg_sl ([.int k])).length) Slot.unset).toArray = ls at hl ⊢
  have hl : lv_has ls 1 [(0, .int k)] := hl
  refine lv_iload_n hx hb dX2_ofSecond_0 rfl (lv_at hl 0 rfl) ?_
  refine lv_iconst (v := 4) hx hb dX2_ofSecond_1 (by decide) ?_
  refine lv_icmp_lt (tgt := 13) hx hb dX2_ofSecond_2 (by decide) (fun h1 => ?_) (fun h1 => ?_)
  · skip
    have h1b := Int32.not_le.mpr h1
    refine lv_iload_n hx hb dX2_ofSecond_13 rfl (lv_at hl 0 rfl) ?_
    refine lv_bipush (v := 18) hx hb dX2_ofSecond_14 (by decide) ?_
    refine lv_icmp_eq (tgt := 25) hx hb dX2_ofSecond_16 (by decide) (fun h2 => ?_) (fun h2 => ?_)
    · skip
      refine lv_iconst (v := 4) hx hb dX2_ofSecond_25 (by decide) ?_
      refine lv_goto (tgt := 30) hx hb dX2_ofSecond_26 (by decide) ?_
      exact W.iret (v := 4) hx hb hr (fun t ht hW => ⟨4, rfl, by first | (simp only [px_s2, h1, h1b, h2, ↓reduceIte, not_true_eq_false, not_false_eq_true, and_true, true_and, and_false, false_and, or_true, true_or, or_false, false_or, and_self, or_self]; done) | (simp [px_s2, h1, h1b, h2]; done) | (simp_all [px_s2]; done), ht⟩) (fun q hq => by cases hq) dX2_ofSecond_30
    · skip
      refine lv_iload_n hx hb dX2_ofSecond_19 rfl (lv_at hl 0 rfl) ?_
      refine lv_bipush (v := 19) hx hb dX2_ofSecond_20 (by decide) ?_
      refine lv_icmp_ne (tgt := 29) hx hb dX2_ofSecond_22 (by decide) (fun h3 => ?_) (fun h3 => ?_)
      · skip
        refine lv_iconst (v := 0) hx hb dX2_ofSecond_29 (by decide) ?_
        exact W.iret (v := 0) hx hb hr (fun t ht hW => ⟨0, rfl, by first | (simp only [px_s2, h1, h1b, h2, h3, ↓reduceIte, not_true_eq_false, not_false_eq_true, and_true, true_and, and_false, false_and, or_true, true_or, or_false, false_or, and_self, or_self]; done) | (simp [px_s2, h1, h1b, h2, h3]; done) | (simp_all [px_s2]; done), ht⟩) (fun q hq => by cases hq) dX2_ofSecond_30
      · skip
        refine lv_iconst (v := 4) hx hb dX2_ofSecond_25 (by decide) ?_
        refine lv_goto (tgt := 30) hx hb dX2_ofSecond_26 (by decide) ?_
        exact W.iret (v := 4) hx hb hr (fun t ht hW => ⟨4, rfl, by first | (simp only [px_s2, h1, h1b, h2, h3, ↓reduceIte, not_true_eq_false, not_false_eq_true, and_true, true_and, and_false, false_and, or_true, true_or, or_false, false_or, and_self, or_self]; done) | (simp [px_s2, h1, h1b, h2, h3]; done) | (simp_all [px_s2]; done), ht⟩) (fun q hq => by cases hq) dX2_ofSecond_30
  · skip
    have h1b := Int32.not_lt.mp h1
    refine lv_iload_n hx hb dX2_ofSecond_5 rfl (lv_at hl 0 rfl) ?_
    refine lv_bipush (v := 13) hx hb dX2_ofSecond_6 (by decide) ?_
    refine lv_icmp_gt (tgt := 13) hx hb dX2_ofSecond_8 (by decide) (fun h4 => ?_) (fun h4 => ?_)
    · skip
      have h4b := Int32.not_le.mpr h4
      refine lv_iload_n hx hb dX2_ofSecond_13 rfl (lv_at hl 0 rfl) ?_
      refine lv_bipush (v := 18) hx hb dX2_ofSecond_14 (by decide) ?_
      refine lv_icmp_eq (tgt := 25) hx hb dX2_ofSecond_16 (by decide) (fun h5 => ?_) (fun h5 => ?_)
      · skip
        refine lv_iconst (v := 4) hx hb dX2_ofSecond_25 (by decide) ?_
        refine lv_goto (tgt := 30) hx hb dX2_ofSecond_26 (by decide) ?_
        exact W.iret (v := 4) hx hb hr (fun t ht hW => ⟨4, rfl, by first | (simp only [px_s2, h1, h1b, h4, h4b, h5, ↓reduceIte, not_true_eq_false, not_false_eq_true, and_true, true_and, and_false, false_and, or_true, true_or, or_false, false_or, and_self, or_self]; done) | (simp [px_s2, h1, h1b, h4, h4b, h5]; done) | (simp_all [px_s2]; done), ht⟩) (fun q hq => by cases hq) dX2_ofSecond_30
      · skip
        refine lv_iload_n hx hb dX2_ofSecond_19 rfl (lv_at hl 0 rfl) ?_
        refine lv_bipush (v := 19) hx hb dX2_ofSecond_20 (by decide) ?_
        refine lv_icmp_ne (tgt := 29) hx hb dX2_ofSecond_22 (by decide) (fun h6 => ?_) (fun h6 => ?_)
        · skip
          refine lv_iconst (v := 0) hx hb dX2_ofSecond_29 (by decide) ?_
          exact W.iret (v := 0) hx hb hr (fun t ht hW => ⟨0, rfl, by first | (simp only [px_s2, h1, h1b, h4, h4b, h5, h6, ↓reduceIte, not_true_eq_false, not_false_eq_true, and_true, true_and, and_false, false_and, or_true, true_or, or_false, false_or, and_self, or_self]; done) | (simp [px_s2, h1, h1b, h4, h4b, h5, h6]; done) | (simp_all [px_s2]; done), ht⟩) (fun q hq => by cases hq) dX2_ofSecond_30
        · skip
          refine lv_iconst (v := 4) hx hb dX2_ofSecond_25 (by decide) ?_
          refine lv_goto (tgt := 30) hx hb dX2_ofSecond_26 (by decide) ?_
          exact W.iret (v := 4) hx hb hr (fun t ht hW => ⟨4, rfl, by first | (simp only [px_s2, h1, h1b, h4, h4b, h5, h6, ↓reduceIte, not_true_eq_false, not_false_eq_true, and_true, true_and, and_false, false_and, or_true, true_or, or_false, false_or, and_self, or_self]; done) | (simp [px_s2, h1, h1b, h4, h4b, h5, h6]; done) | (simp_all [px_s2]; done), ht⟩) (fun q hq => by cases hq) dX2_ofSecond_30
    · skip
      have h4b := Int32.not_lt.mp h4
      refine lv_iconst (v := 3) hx hb dX2_ofSecond_11 (by decide) ?_
      exact W.iret (v := 3) hx hb hr (fun t ht hW => ⟨3, rfl, by first | (simp only [px_s2, h1, h1b, h4, h4b, ↓reduceIte, not_true_eq_false, not_false_eq_true, and_true, true_and, and_false, false_and, or_true, true_or, or_false, false_or, and_self, or_self]; done) | (simp [px_s2, h1, h1b, h4, h4b]; done) | (simp_all [px_s2]; done), ht⟩) (fun q hq => by cases hq) dX2_ofSecond_12
set_option maxHeartbeats 4000000 in
set_option maxRecDepth 100000 in
theorem ctX2_ofThird (l : Launch) (k : Int32) : Met l yX2_ofThird wsX2_ofThird ({ frames := 0, cells := 0, slots := 0, locals := 0 }) (va_Pc [.int k] (fun _ => True)) (vp_Si (fun r => r = px_s3 k)) 0 0 (fun _ => False) := by
  refine Met.ofW (cc := cX2_ofThird) (maxL := 1) (ret := (some .int)) (by decide) rfl ?_
  intro p e s m args below meth c s₁ B hml hv
  obtain ⟨rfl, -⟩ := hv
  have hx := B.exec
  have hb := B.bytes
  have hr := B.returns
  have hts := atoms_spec (ws := wsX2_ofThird) B.pre
  have hown : s.vm.findClass RX2 = some m.cls := findClass_of_methodNamed B.named
  have hlocks := B.notSynchronized
  have hl := lv_entry ([.int k]) (n := 1) (Nat.le_of_ble_eq_true rfl)
  rw [lg_entry_eq]
  generalize (lg_sl ([.int k]) ++ List.replicate (1 - (lg_sl ([.int k])).length) Slot.unset).toArray = ls at hl ⊢
  have hl : lv_has ls 1 [(0, .int k)] := hl
  refine lv_iload_n hx hb dX2_ofThird_0 rfl (lv_at hl 0 rfl) ?_
  refine lv_bipush (v := 9) hx hb dX2_ofThird_1 (by decide) ?_
  refine lv_icmp_ne (tgt := 10) hx hb dX2_ofThird_3 (by decide) (fun h1 => ?_) (fun h1 => ?_)
  · skip
    refine lv_iconst (v := 0) hx hb dX2_ofThird_10 (by decide) ?_
    exact W.iret (v := 0) hx hb hr (fun t ht hW => ⟨0, rfl, by first | (simp only [px_s3, h1, ↓reduceIte, not_true_eq_false, not_false_eq_true, and_true, true_and, and_false, false_and, or_true, true_or, or_false, false_or, and_self, or_self]; done) | (simp [px_s3, h1]; done) | (simp_all [px_s3]; done), ht⟩) (fun q hq => by cases hq) dX2_ofThird_11
  · skip
    refine lv_iconst (v := 3) hx hb dX2_ofThird_6 (by decide) ?_
    refine lv_goto (tgt := 11) hx hb dX2_ofThird_7 (by decide) ?_
    exact W.iret (v := 3) hx hb hr (fun t ht hW => ⟨3, rfl, by first | (simp only [px_s3, h1, ↓reduceIte, not_true_eq_false, not_false_eq_true, and_true, true_and, and_false, false_and, or_true, true_or, or_false, false_or, and_self, or_self]; done) | (simp [px_s3, h1]; done) | (simp_all [px_s3]; done), ht⟩) (fun q hq => by cases hq) dX2_ofThird_11
set_option maxHeartbeats 4000000 in
set_option maxRecDepth 100000 in
theorem ctX2_isTerm (l : Launch) (s0 : Int32) : Met l yX2_isTerm wsX2_isTerm ({ frames := 0, cells := 0, slots := 0, locals := 0 }) (va_Pc [.int s0] (fun _ => True)) (vp_Si (fun r => r = px_ter s0)) 0 0 (fun _ => False) := by
  refine Met.ofW (cc := cX2_isTerm) (maxL := 1) (ret := (some .boolean)) (by decide) rfl ?_
  intro p e s m args below meth c s₁ B hml hv
  obtain ⟨rfl, -⟩ := hv
  have hx := B.exec
  have hb := B.bytes
  have hr := B.returns
  have hts := atoms_spec (ws := wsX2_isTerm) B.pre
  have hown : s.vm.findClass RX2 = some m.cls := findClass_of_methodNamed B.named
  have hlocks := B.notSynchronized
  have hl := lv_entry ([.int s0]) (n := 1) (Nat.le_of_ble_eq_true rfl)
  rw [lg_entry_eq]
  generalize (lg_sl ([.int s0]) ++ List.replicate (1 - (lg_sl ([.int s0])).length) Slot.unset).toArray = ls at hl ⊢
  have hl : lv_has ls 1 [(0, .int s0)] := hl
  refine lv_iload_n hx hb dX2_isTerm_0 rfl (lv_at hl 0 rfl) ?_
  refine lv_iconst (v := 3) hx hb dX2_isTerm_1 (by decide) ?_
  refine lv_icmp_eq (tgt := 10) hx hb dX2_isTerm_2 (by decide) (fun h1 => ?_) (fun h1 => ?_)
  · skip
    refine lv_iconst (v := 1) hx hb dX2_isTerm_10 (by decide) ?_
    refine lv_goto (tgt := 15) hx hb dX2_isTerm_11 (by decide) ?_
    exact W.zret (v := 1) hx hb hr (rfl) (fun t ht hW => ⟨1, rfl, by first | (simp only [px_ter, h1, ↓reduceIte, not_true_eq_false, not_false_eq_true, and_true, true_and, and_false, false_and, or_true, true_or, or_false, false_or, and_self, or_self]; done) | (simp [px_ter, h1]; done) | (simp_all [px_ter]; done), ht⟩) (fun q hq => by cases hq) dX2_isTerm_15
  · skip
    refine lv_iload_n hx hb dX2_isTerm_5 rfl (lv_at hl 0 rfl) ?_
    refine lv_iconst (v := 4) hx hb dX2_isTerm_6 (by decide) ?_
    refine lv_icmp_ne (tgt := 14) hx hb dX2_isTerm_7 (by decide) (fun h2 => ?_) (fun h2 => ?_)
    · skip
      refine lv_iconst (v := 0) hx hb dX2_isTerm_14 (by decide) ?_
      exact W.zret (v := 0) hx hb hr (rfl) (fun t ht hW => ⟨0, rfl, by first | (simp only [px_ter, h1, h2, ↓reduceIte, not_true_eq_false, not_false_eq_true, and_true, true_and, and_false, false_and, or_true, true_or, or_false, false_or, and_self, or_self]; done) | (simp [px_ter, h1, h2]; done) | (simp_all [px_ter]; done), ht⟩) (fun q hq => by cases hq) dX2_isTerm_15
    · skip
      refine lv_iconst (v := 1) hx hb dX2_isTerm_10 (by decide) ?_
      refine lv_goto (tgt := 15) hx hb dX2_isTerm_11 (by decide) ?_
      exact W.zret (v := 1) hx hb hr (rfl) (fun t ht hW => ⟨1, rfl, by first | (simp only [px_ter, h1, h2, ↓reduceIte, not_true_eq_false, not_false_eq_true, and_true, true_and, and_false, false_and, or_true, true_or, or_false, false_or, and_self, or_self]; done) | (simp [px_ter, h1, h2]; done) | (simp_all [px_ter]; done), ht⟩) (fun q hq => by cases hq) dX2_isTerm_15
