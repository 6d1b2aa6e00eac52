/-! the relation between the class's state and the reference's, and how a call keeps it -/
def lw_R (fk fa fb fc cm st : Nat → Nat) (n mm lv : Nat) (ms : Int32) (aK aA aB aC aP aV aM aS aF bK bA bB bC bM bS bF : Nat → Int32) : Prop :=
  (n ≤ 12 ∧ mm ≤ 20 ∧ lv ≤ 5) ∧
  ((∀ t, t < n → aK t = nI (fk t)) ∧ (∀ t, t < n → aA t = nI (fa t)) ∧ (∀ t, t < n → aB t = nI (fb t)) ∧ (∀ t, t < n → aC t = nI (fc t))) ∧
  ((∀ t, t < n → bK t = nI (fk t)) ∧ (∀ t, t < n → bA t = nI (fa t)) ∧ (∀ t, t < n → pv_s2 (fk t) ≠ 0 → bB t = nI (fb t)) ∧ (∀ t, t < n → pv_s3 (fk t) ≠ 0 → bC t = nI (fc t))) ∧
  (pv_TI fk fa fb fc n ∧ pp_PI fk fa fb fc aP n ∧ pp_VI fk fa aP (aV 0) 0 n ∧ pp_VI fk fa aP (aV 1) 1 n) ∧
  ((∀ i, i < mm → aM i = nI (cm i)) ∧ (∀ i, i < mm → bM i = nI (cm i)) ∧ (∀ i, i < mm → cm i < n ∧ 10 ≤ fk (cm i))) ∧
  ((∀ j, 1 ≤ j → j ≤ lv → aS j = nI (st j) ∧ bS j = nI (st j) ∧ st j ≤ mm) ∧ (∀ i j, 1 ≤ i → i ≤ j → j ≤ lv → st i ≤ st j)) ∧
  (ms = 0 ∨ (ms = 1 ∧ ∃ x y, x < 32 ∧ y < 32 ∧ aF 0 = nI x ∧ aF 1 = nI y ∧ bF 0 = nI x ∧ bF 1 = nI y))
theorem pc_nv_0 {P V : Nat → Int32} {t κ α : Nat} : pc_nv P V t κ α 2 0 = pp_vr P (V 0) t κ α 0 := by
  show upd (pc_nv P V t κ α 1) 1 _ 0 = _
  rw [pk_un (by decide)]
  show upd (pc_nv P V t κ α 0) 0 _ 0 = _
  rw [pk_us]
  rfl
theorem pc_nv_1 {P V : Nat → Int32} {t κ α : Nat} : pc_nv P V t κ α 2 1 = pp_vr P (V 1) t κ α 1 := by
  show upd (pc_nv P V t κ α 1) 1 _ 1 = _
  rw [pk_us]
  have e : pc_nv P V t κ α 1 1 = V 1 := by
    show upd (pc_nv P V t κ α 0) 0 _ 1 = _
    rw [pk_un (by decide)]
    rfl
  rw [e]
theorem lw_u {f : Nat → Int32} {g : Nat → Nat} {n κ : Nat} (h : ∀ t, t < n → f t = nI (g t)) : ∀ t, t < n + 1 → upd f n (nI κ) t = nI (va_up g n κ t) := by
  intro t ht
  by_cases e : t = n
  · subst e
    rw [pk_us, va_up_self]
  · rw [pk_un e, va_up_ne _ _ e]
    exact h t (by omega)
theorem lw_R_term {fk fa fb fc cm st : Nat → Nat} {n mm lv : Nat} {ms : Int32} {aK aA aB aC aP aV aM aS aF bK bA bB bC bM bS bF : Nat → Int32} {kd a0 b0 c0 : Int32} {κ α β γ : Nat} (h : lw_R fk fa fb fc cm st n mm lv ms aK aA aB aC aP aV aM aS aF bK bA bB bC bM bS bF) (harg : pq_arg fk n kd a0 b0 c0 κ α β γ) (hn12 : n < 12) :
    lw_R (va_up fk n κ) (va_up fa n α) (va_up fb n β) (va_up fc n γ) cm st (n + 1) mm lv ms (upd aK n (nI κ)) (upd aA n (nI α)) (upd aB n (nI β)) (upd aC n (nI γ)) (upd aP n (pp_new aP n κ α β γ)) (pc_nv (upd aP n (pp_new aP n κ α β γ)) aV n κ α 2) aM aS aF (upd bK n kd) (upd bA n a0) (upd bB n b0) (upd bC n c0) bM bS bF := by
  obtain ⟨⟨h1, h2, h3⟩, ⟨a1, a2, a3, a4⟩, ⟨b1, b2, b3, b4⟩, ⟨t1, t2, t3, t4⟩, ⟨c1, c2, c3⟩, s1, m1⟩ := h
  obtain ⟨g1, g2, g3, g4, g5, g6, g7, g8, g9, g10, g11⟩ := harg
  have hT := pp_push_TI t1 g1 g5 g8 g11
  have hP := pp_push_PI (P := aP) (by omega) hT t2
  refine ⟨⟨by omega, h2, h3⟩, ⟨lw_u a1, lw_u a2, lw_u a3, lw_u a4⟩, ⟨?_, ?_, ?_, ?_⟩, ⟨hT, hP, ?_, ?_⟩, ⟨c1, c2, ?_⟩, s1, m1⟩
  · rw [g2]; exact lw_u b1
  · rw [g4]; exact lw_u b2
  · intro t ht hs
    by_cases e : t = n
    · subst e
      rw [va_up_self] at hs
      rw [pk_us, va_up_self]
      exact g7 hs
    · rw [va_up_ne _ _ e] at hs
      rw [pk_un e, va_up_ne _ _ e]
      exact b3 t (by omega) hs
  · intro t ht hs
    by_cases e : t = n
    · subst e
      rw [va_up_self] at hs
      rw [pk_us, va_up_self]
      exact g10 hs
    · rw [va_up_ne _ _ e] at hs
      rw [pk_un e, va_up_ne _ _ e]
      exact b4 t (by omega) hs
  · rw [pc_nv_0]; exact pp_push_VI (by omega) hT hP t3
  · rw [pc_nv_1]; exact pp_push_VI (by omega) hT hP t4
  · intro i hi
    obtain ⟨q1, q2⟩ := c3 i hi
    refine ⟨by omega, ?_⟩
    rw [va_up_ne _ _ (by omega)]
    exact q2
theorem lw_R_claim {fk fa fb fc cm st : Nat → Nat} {n mm lv : Nat} {ms : Int32} {aK aA aB aC aP aV aM aS aF bK bA bB bC bM bS bF : Nat → Int32} {j : Nat} (h : lw_R fk fa fb fc cm st n mm lv ms aK aA aB aC aP aV aM aS aF bK bA bB bC bM bS bF) (hj : j < n) (h10 : 10 ≤ fk j) (hm20 : mm < 20) :
    lw_R fk fa fb fc (va_up cm mm j) st n (mm + 1) lv ms aK aA aB aC aP aV (upd aM mm (nI j)) aS aF bK bA bB bC (upd bM mm (nI j)) bS bF := by
  obtain ⟨⟨h1, h2, h3⟩, hA, hB, hT, ⟨c1, c2, c3⟩, ⟨s1, s2⟩, m1⟩ := h
  refine ⟨⟨h1, by omega, h3⟩, hA, hB, hT, ⟨lw_u c1, lw_u c2, ?_⟩, ⟨fun i q1 q2 => ⟨(s1 i q1 q2).1, (s1 i q1 q2).2.1, by have := (s1 i q1 q2).2.2; omega⟩, s2⟩, m1⟩
  intro i hi
  by_cases e : i = mm
  · subst e
    rw [va_up_self]
    exact ⟨hj, h10⟩
  · rw [va_up_ne _ _ e]
    exact c3 i (by omega)
theorem lw_R_open {fk fa fb fc cm st : Nat → Nat} {n mm lv : Nat} {ms : Int32} {aK aA aB aC aP aV aM aS aF bK bA bB bC bM bS bF : Nat → Int32} (h : lw_R fk fa fb fc cm st n mm lv ms aK aA aB aC aP aV aM aS aF bK bA bB bC bM bS bF) (hlv : lv < 5) :
    lw_R fk fa fb fc cm (va_up st (lv + 1) mm) n mm (lv + 1) ms aK aA aB aC aP aV aM (upd aS (lv + 1) (nI mm)) aF bK bA bB bC bM (upd bS (lv + 1) (nI mm)) bF := by
  obtain ⟨⟨h1, h2, h3⟩, hA, hB, hT, hC, ⟨s1, s2⟩, m1⟩ := h
  refine ⟨⟨h1, h2, by omega⟩, hA, hB, hT, hC, ⟨fun i q1 q2 => ?_, fun i j q1 q2 q3 => ?_⟩, m1⟩
  · by_cases e : i = lv + 1
    · subst e
      rw [pk_us, pk_us, va_up_self]
      exact ⟨rfl, rfl, Nat.le_refl _⟩
    · rw [pk_un e, pk_un e, va_up_ne _ _ e]
      exact s1 i q1 (by omega)
  · by_cases e : j = lv + 1
    · subst e
      rw [va_up_self]
      by_cases e2 : i = lv + 1
      · subst e2
        rw [va_up_self]
        exact Nat.le_refl _
      · rw [va_up_ne _ _ e2]
        exact (s1 i q1 (by omega)).2.2
    · rw [va_up_ne _ _ e, va_up_ne _ _ (by omega)]
      exact s2 i j q1 q2 (by omega)
theorem lw_R_close {fk fa fb fc cm st : Nat → Nat} {n mm lv : Nat} {ms : Int32} {aK aA aB aC aP aV aM aS aF bK bA bB bC bM bS bF : Nat → Int32} (h : lw_R fk fa fb fc cm st n mm (lv + 1) ms aK aA aB aC aP aV aM aS aF bK bA bB bC bM bS bF) :
    lw_R fk fa fb fc cm st n (st (lv + 1)) lv ms aK aA aB aC aP aV aM aS aF bK bA bB bC bM bS bF := by
  obtain ⟨⟨h1, h2, h3⟩, hA, hB, hT, ⟨c1, c2, c3⟩, ⟨s1, s2⟩, m1⟩ := h
  have hs := (s1 (lv + 1) (by omega) (Nat.le_refl _)).2.2
  exact ⟨⟨h1, by omega, by omega⟩, hA, hB, hT, ⟨fun i hi => c1 i (by omega), fun i hi => c2 i (by omega), fun i hi => c3 i (by omega)⟩, ⟨fun i q1 q2 => ⟨(s1 i q1 (by omega)).1, (s1 i q1 (by omega)).2.1, s2 i (lv + 1) q1 (by omega) (Nat.le_refl _)⟩, fun i j q1 q2 q3 => s2 i j q1 q2 (by omega)⟩, m1⟩
theorem lw_R_model {fk fa fb fc cm st : Nat → Nat} {n mm lv : Nat} {ms ms' : Int32} {aK aA aB aC aP aV aM aS aF bK bA bB bC bM bS bF aF' bF' : Nat → Int32} (h : lw_R fk fa fb fc cm st n mm lv ms aK aA aB aC aP aV aM aS aF bK bA bB bC bM bS bF)
    (hm : ms' = 0 ∨ (ms' = 1 ∧ ∃ x y, x < 32 ∧ y < 32 ∧ aF' 0 = nI x ∧ aF' 1 = nI y ∧ bF' 0 = nI x ∧ bF' 1 = nI y)) :
    lw_R fk fa fb fc cm st n mm lv ms' aK aA aB aC aP aV aM aS aF' bK bA bB bC bM bS bF' := ⟨h.1, h.2.1, h.2.2.1, h.2.2.2.1, h.2.2.2.2.1, h.2.2.2.2.2.1, hm⟩
theorem lw_R_0 (z : Nat → Int32) (hz : z = fun _ => 0) : lw_R (fun _ => 0) (fun _ => 0) (fun _ => 0) (fun _ => 0) (fun _ => 0) (fun _ => 0) 0 0 0 0 z z z z z z z z z z z z z z z z := by
  subst hz
  have hV : ∀ i, pp_VI (fun _ => 0) (fun _ => 0) (fun _ => 0) 0 i 0 := by
    intro i t ht
    constructor
    · intro q
      rw [bb_0] at q
      exact absurd q (by decide)
    · intro q
      exact absurd q.1 (Nat.not_lt_zero _)
  refine ⟨⟨by omega, by omega, by omega⟩, ⟨?_, ?_, ?_, ?_⟩, ⟨?_, ?_, ?_, ?_⟩, ⟨?_, ?_, hV 0, hV 1⟩, ⟨?_, ?_, ?_⟩, ⟨?_, ?_⟩, Or.inl rfl⟩
  all_goals first
    | (intro t ht; exact absurd ht (Nat.not_lt_zero _))
    | (intro j q1 q2; exact absurd (Nat.le_trans q1 q2) (by decide))
    | (intro i j q1 q2 q3; exact absurd (Nat.le_trans q1 (Nat.le_trans q2 q3)) (by decide))
/-- the class's check finds what the reference's finds -/
theorem lw_check {fk fa fb fc cm st : Nat → Nat} {n mm lv : Nat} {ms : Int32} {aK aA aB aC aP aV aM aS aF bK bA bB bC bM bS bF aN bN : Nat → Int32} (h : lw_R fk fa fb fc cm st n mm lv ms aK aA aB aC aP aV aM aS aF bK bA bB bC bM bS bF) :
    (pc_out fk fa fb fc n (pc_fx aP (aV 1) (pc_ct cm mm) n) (pc_mv aP (aV 1) (pc_ct cm mm) n) (pc_ct cm mm) (pc_L aP (aV 0) (pc_ct cm mm) n) 0 aN).1 = (pm_ck fk fa fb fc n cm mm 1024 0 bN).1.map (fun i => (i / 32, i % 32)) := by
  obtain ⟨⟨h1, h2, h3⟩, hA, hB, ⟨t1, t2, t3, t4⟩, ⟨c1, c2, c3⟩, hS, m1⟩ := h
  refine ps_same (by omega) t1 t2 t3 t4 c3 ?_ _ _
  unfold pc_L
  by_cases e : pc_po aP (pc_ct cm mm) n &&& aV 0 = 0
  · rw [if_pos e]
    exact Or.inr ⟨rfl, e⟩
  · rw [if_neg e]
    exact Or.inl rfl
theorem lw_op {k x y : Int32} (h : pr_ok k x y) : pu_op k x y = pm_op k x y := by
  obtain ⟨⟨κ, h1, h2, h3, rfl⟩, ⟨i, hi, rfl⟩, ⟨j, hj, rfl⟩⟩ := h
  exact pe_opE h1 h2 h3 hi hj
theorem lw_end {L i : Nat} (hL : L ≤ 2560) (hi : i ≤ 2565) : Int32.ofNat L - 5 < nI i ↔ L < i + 5 := by
  by_cases h5 : 5 ≤ L
  · obtain ⟨d, rfl⟩ : ∃ d, L = d + 5 := ⟨L - 5, by omega⟩
    have e : Int32.ofNat (d + 5) - 5 = nI d := by
      rw [Int32.ofNat_add]
      exact Int32.add_sub_cancel _ _
    rw [e, nI_ltI (by omega) (by omega)]
    omega
  · have hneg : Int32.ofNat L - 5 < 0 := by
      rcases (show L = 0 ∨ L = 1 ∨ L = 2 ∨ L = 3 ∨ L = 4 by omega) with rfl | rfl | rfl | rfl | rfl <;> decide
    refine ⟨fun _ => by omega, fun _ => Int32.lt_of_lt_of_le hneg (nI_pos' (by omega))⟩
section XL
variable {p : Program} {l : Launch} {e : Env} {R : Room} {s : State} {m : MethodId} {args : Array Value} {below : List Frame} {meth : Method} {c : Code} {H : Heap} {locs : List Loc} {cells slots : Nat} {Q : State → Prop}
variable {cc : ByteArray} {pc : Nat} {ls : Array Slot} {rest : List Value} {D : va_G} {cl : List vw_C} {A : Nat → Prop} {a : Nat} {tys : List (ClassId × FieldType)} {ws : va_W} {H0 : Heap}
theorem xr_lcmp0 (hexec : p.tables.exec = Jvm.exec) (hb : c.code = cc) {x y : Int64} (hdg : decode cc pc = .ok (.lcmp, 1)) (hxy : x = y)
    (k : W p l e R s m args below meth c H locs cells slots Q (F0 m (pc + 1) ls (.int 0 :: rest))) : W p l e R s m args below meth c H locs cells slots Q (F0 m pc ls (.long y :: .long x :: rest)) := by
  subst hxy
  intro T hT X
  obtain ⟨t, a, b⟩ := k T hT X
  refine ⟨t, ?_, b⟩
  jvm_step X.here [X.here.top, hexec, hb, hdg]
  exact a
theorem xr_sld (hexec : p.tables.exec = Jvm.exec) (hb : c.code = cc) {b L : Nat} {xs : Nat → Int32} (hX : va_X b L xs s H0) (hbl : b < H0.size) (hbA : ¬ A b) (hS : va_S A H0 H locs) {t : Nat} (ht : t < L) (hL : L ≤ 2560) (hdg : decode cc pc = .ok (.iaload, 1))
    (kk : W p l e R s m args below meth c H locs cells slots Q (F0 m (pc + 1) ls (.int (xs t) :: rest))) : W p l e R s m args below meth c H locs cells slots Q (F0 m pc ls (.int (nI t) :: .ref b :: rest)) := by
  refine va_sld hexec hb hX hbl hbA hS (i := nI t) (nI_in ht (by omega)) hdg ?_
  rw [nI_clamp (by omega)]
  exact kk
theorem xr_lald0 (hexec : p.tables.exec = Jvm.exec) (hb : c.code = cc) (hK : va_K D cl tys s) (hP : va_P D cl ws H) (q0 t0 : Nat) {cA : ClassId} {f : Nat → Int64} {v : Int64} (ha : ws[q0]? = some (a, .inl (cA, 1, .inr (.inl f)))) (ht : tys[t0]? = some (cA, .long)) (hv : f 0 = v) (hdg : decode cc pc = .ok (.laload, 1))
    (kk : W p l e R s m args below meth c H locs cells slots Q (F0 m (pc + 1) ls (.long v :: rest))) : W p l e R s m args below meth c H locs cells slots Q (F0 m pc ls (.int 0 :: .ref a :: rest)) := by
  subst hv
  exact va_lald hexec hb hK hP q0 t0 ha ht (i := 0) xo_in hdg kk
end XL
theorem wm_cw_L_term : Cond.codeWith yL_term cL_term 7 (some .int) [(0, 14, 17, 13), (0, 14, 21, 15)] ∈ wA := wA_mem (List.mem_of_getElem? (i := 194) (by decide +kernel)) (by decide +kernel)
theorem wm_cw_L_claim : Cond.codeWith yL_claim cL_claim 4 (some .int) [(0, 9, 12, 13), (0, 9, 15, 15)] ∈ wA := wA_mem (List.mem_of_getElem? (i := 350) (by decide +kernel)) (by decide +kernel)
theorem wm_cw_L_open : Cond.codeWith yL_open cL_open 3 (some .int) [(0, 8, 11, 15)] ∈ wA := wA_mem (List.mem_of_getElem? (i := 368) (by decide +kernel)) (by decide +kernel)
theorem wm_cw_L_close : Cond.codeWith yL_close cL_close 3 (some .int) [(0, 8, 11, 15)] ∈ wA := wA_mem (List.mem_of_getElem? (i := 380) (by decide +kernel)) (by decide +kernel)
theorem wm_cw_L_model : Cond.codeWith yL_model cL_model 4 (some .int) [(0, 9, 12, 13), (0, 9, 15, 31)] ∈ wA := wA_mem (List.mem_of_getElem? (i := 392) (by decide +kernel)) (by decide +kernel)
theorem wm_cw_L_value : Cond.codeWith yL_value cL_value 4 (some .int) [(0, 9, 12, 13), (0, 9, 15, 31)] ∈ wA := wA_mem (List.mem_of_getElem? (i := 417) (by decide +kernel)) (by decide +kernel)
theorem wm_cw_L_reckon : Cond.codeWith yL_reckon cL_reckon 6 (some .int) [(0, 12, 15, 13)] ∈ wA := wA_mem (List.mem_of_getElem? (i := 431) (by decide +kernel)) (by decide +kernel)
