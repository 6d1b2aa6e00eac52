set_option maxHeartbeats 4000000 in
set_option maxRecDepth 100000 in
theorem lw_body {p : Program} {l : Launch} {e : Env} {s : State} {m : MethodId} {below : List Frame} {meth : Method} {c : Code} {b L : Nat} {xs : Nat → Int32} {dC : Nat → ClassId} {dI : Nat → Nat → Nat} {cI cJ : ClassId} {hf ad sd md : Nat → Nat} {oa : Nat} {sa : Nat → Nat} {A9 : Nat → Prop} {Q : State → Prop} {j : Nat} (C : lw_C p l e s m below meth c b L xs dC dI cI cJ hf ad sd md oa sa A9 Q j) {ls : Array Slot} {H : Heap} {locs : List Loc} (hI : lw_I dC dI cI cJ hf ad sd md oa b A9 s.heap j ls H locs) : W p l e room_1 s m #[Value.ref b] below meth c H locs (23 + j) (222 + 6 * j) Q (F0 m 32 ls []) := by
  have C9 := C
  obtain ⟨⟨hx, hb, hml, hown, hts, hX, hbl, hl9, hL⟩, hK, hE, hA, hbA, hj, K⟩ := C9
  have hI9 := hI
  obtain ⟨fk, fa, fb, fc, cm, st, n, mm, lv, ms, ck, th, aK, aA, aB, aC, aP, aV, aN, aM, aS, aF, bK, bA, bB, bC, bM, bS, bF, bN, g0, hR, hP, hD, hS, hl⟩ := hI
  have hRR := hR
  obtain ⟨⟨hn, hm, hlv0⟩, ⟨hk, ha, hbb, hc⟩, ⟨hk', ha', hb2, hc2⟩, ⟨hT, hPI, hV0, hV1⟩, ⟨hcm, hcm', hc10⟩, ⟨hst, hmono⟩, hms⟩ := hRR
  have hfo : ms = 0 ∨ ms = 1 := hms.elim Or.inl (fun z => Or.inr z.1)
  refine lv_aload_n hx hb dL_law_32 rfl (lv_at hl 0 rfl) ?_
  refine lv_iload hx hb dL_law_33 (lv_at hl 4 rfl) ?_
  refine xr_sld (t := 5 * j) hx hb hX hbl hbA hS (by omega) hL dL_law_35 ?_
  refine lv_bipush (v := 15) hx hb dL_law_36 (by decide) ?_
  refine lv_iand hx hb dL_law_38 ?_
  generalize hq : xs (5 * j) &&& 15 = q9
  by_cases k0 : q9 = 0
  · refine lv_tableIn (off := 61) (tgt := 100) hx hb dL_law_39 (by rw [k0]; decide) (by rw [k0]; decide) (by rw [k0]; rfl) (by decide) ?_
    by_cases halw : pq_alw fk n (xs (5 * j + 1)) (xs (5 * j + 2)) (xs (5 * j + 3)) (xs (5 * j + 4))
    · obtain ⟨κ, α, β, γ, harg⟩ := pq_arg_of hn halw
      cases hfd : pq_fd fk fa fb fc κ α β γ n 0 with
      | none =>
        by_cases hn12 : n < 12
        · exact lw_term3 C hR hP hD hS hl harg hfd hn12
        · exact lw_term2 C hR hP hD hS hl harg hfd (by omega)
      | some t => exact lw_term1 C hR hP hD hS hl harg hfd
    · exact lw_term0 C hR hP hD hS hl halw
  by_cases k1 : q9 = 1
  · refine lv_tableIn (off := 153) (tgt := 192) hx hb dL_law_39 (by rw [k1]; decide) (by rw [k1]; decide) (by rw [k1]; rfl) (by decide) ?_
    by_cases hok : ∃ i9, i9 < n ∧ (xs (5 * j + 1)) = nI i9 ∧ 10 ≤ fk i9
    · by_cases hm20 : mm < 20
      · exact lw_claim2 C hR hP hD hS hl hok hm20
      · exact lw_claim1 C hR hP hD hS hl hok (by omega)
    · exact lw_claim0 C hR hP hD hS hl hok
  by_cases k2 : q9 = 2
  · refine lv_tableIn (off := 209) (tgt := 248) hx hb dL_law_39 (by rw [k2]; decide) (by rw [k2]; decide) (by rw [k2]; rfl) (by decide) ?_
    by_cases hlv : lv < 5
    · exact lw_open1 C hR hP hD hS hl hlv
    · exact lw_open0 C hR hP hD hS hl (by omega)
  by_cases k3 : q9 = 3
  · refine lv_tableIn (off := 253) (tgt := 292) hx hb dL_law_39 (by rw [k3]; decide) (by rw [k3]; decide) (by rw [k3]; rfl) (by decide) ?_
    rcases lv with _ | lv
    · exact lw_close0 (lv := 0) C hR hP hD hS hl
    · exact lw_close1 (lv := lv) C hR hP hD hS hl
  by_cases k4 : q9 = 4
  · refine lv_tableIn (off := 297) (tgt := 336) hx hb dL_law_39 (by rw [k4]; decide) (by rw [k4]; decide) (by rw [k4]; rfl) (by decide) ?_
    exact lw_do_check C hR hP hD hS hl
  by_cases k5 : q9 = 5
  · refine lv_tableIn (off := 310) (tgt := 349) hx hb dL_law_39 (by rw [k5]; decide) (by rw [k5]; decide) (by rw [k5]; rfl) (by decide) ?_
    by_cases h2 : ∃ i9, i9 < 2 ∧ (xs (5 * j + 1)) = nI i9
    · obtain ⟨j0, hj0, hxv⟩ := h2
      rcases hms with rfl | ⟨rfl, x, y, gx, gy, e1, e2, e3, e4⟩
      · exact lw_model1 (ms := 0) C hR hP hD hS hl hj0 hxv
      · refine lw_model2 (ms := 1) C hR hP hD hS hl hj0 hxv ?_
        rcases (show j0 = 0 ∨ j0 = 1 by omega) with rfl | rfl
        · rw [e1, e3]
        · rw [e2, e4]
    · exact lw_model0 C hR hP hD hS hl h2 hfo
  by_cases k6 : q9 = 6
  · refine lv_tableIn (off := 366) (tgt := 405) hx hb dL_law_39 (by rw [k6]; decide) (by rw [k6]; decide) (by rw [k6]; rfl) (by decide) ?_
    by_cases h2 : ∃ i9, i9 < n ∧ (xs (5 * j + 1)) = nI i9
    · obtain ⟨t, ht, hxv⟩ := h2
      rcases hms with rfl | ⟨rfl, x, y, gx, gy, e1, e2, e3, e4⟩
      · exact lw_value1 (ms := 0) C hR hP hD hS hl ht hxv
      · refine lw_value2 (ms := 1) C hR hP hD hS hl ht hxv ?_
        rw [e1, e2, e3, e4]
        exact ps_value (by omega) hT hPI ht gx gy _ _
    · exact lw_value0 C hR hP hD hS hl h2 hfo
  by_cases k7 : q9 = 7
  · refine lv_tableIn (off := 422) (tgt := 461) hx hb dL_law_39 (by rw [k7]; decide) (by rw [k7]; decide) (by rw [k7]; rfl) (by decide) ?_
    by_cases hok : pr_ok (xs (5 * j + 1)) (xs (5 * j + 2)) (xs (5 * j + 3))
    · exact lw_reckon1 C hR hP hD hS hl hok
    · exact lw_reckon0 C hR hP hD hS hl hok
  by_cases k8 : q9 = 8
  · refine lv_tableIn (off := 502) (tgt := 541) hx hb dL_law_39 (by rw [k8]; decide) (by rw [k8]; decide) (by rw [k8]; rfl) (by decide) ?_
    exact lw_do_terms C hR hP hD hS hl
  by_cases k9 : q9 = 9
  · refine lv_tableIn (off := 515) (tgt := 554) hx hb dL_law_39 (by rw [k9]; decide) (by rw [k9]; decide) (by rw [k9]; rfl) (by decide) ?_
    exact lw_do_claims C hR hP hD hS hl
  by_cases k10 : q9 = 10
  · refine lv_tableIn (off := 528) (tgt := 567) hx hb dL_law_39 (by rw [k10]; decide) (by rw [k10]; decide) (by rw [k10]; rfl) (by decide) ?_
    exact lw_do_level C hR hP hD hS hl
  by_cases k11 : q9 = 11
  · refine lv_tableIn (off := 541) (tgt := 580) hx hb dL_law_39 (by rw [k11]; decide) (by rw [k11]; decide) (by rw [k11]; rfl) (by decide) ?_
    exact lw_do_checks C hR hP hD hS hl
  refine lv_tableOut (tgt := 593) hx hb dL_law_39 (sw_out 0 11 (by decide) (fun j9 h1 h2 e9 => ?_)) (by decide) ?_
  · rcases (show j9 = 0 ∨ j9 = 1 ∨ j9 = 2 ∨ j9 = 3 ∨ j9 = 4 ∨ j9 = 5 ∨ j9 = 6 ∨ j9 = 7 ∨ j9 = 8 ∨ j9 = 9 ∨ j9 = 10 ∨ j9 = 11 by omega) with rfl | rfl | rfl | rfl | rfl | rfl | rfl | rfl | rfl | rfl | rfl | rfl
    · exact k0 e9
    · exact k1 e9
    · exact k2 e9
    · exact k3 e9
    · exact k4 e9
    · exact k5 e9
    · exact k6 e9
    · exact k7 e9
    · exact k8 e9
    · exact k9 e9
    · exact k10 e9
    · exact k11 e9
  refine W.widen (k := 23 + (j + 1)) (n := 222 + 6 * (j + 1)) (by omega) (by omega) ?_
  exact K ls H locs hI9
set_option maxHeartbeats 4000000 in
set_option maxRecDepth 100000 in
theorem lw_loop {p : Program} {l : Launch} {e : Env} {s : State} {m : MethodId} {below : List Frame} {meth : Method} {c : Code} {b L : Nat} {xs : Nat → Int32} {dC : Nat → ClassId} {dI : Nat → Nat → Nat} {cI cJ : ClassId} {hf ad sd md : Nat → Nat} {oa : Nat} {sa : Nat → Nat} {A9 : Nat → Prop} {Q : State → Prop} (F : lw_Fx p l s m c b L xs) (hK : va_K (dC, dI) vwCl [(cI, .int), (cJ, .long)] s) (hE : tx_E A9 sa s s.heap) (hA : ∀ q : Nat, s.heap.size ≤ q → A9 q) (hbA : ¬ A9 b)
    (KE : ∀ (j : Nat) (ls : Array Slot) (H : Heap) (locs : List Loc), j ≤ 512 → lw_I dC dI cI cJ hf ad sd md oa b A9 s.heap j ls H locs → W p l e room_1 s m #[Value.ref b] below meth c H locs (23 + j) (222 + 6 * j) Q (F0 m 599 ls [])) :
    ∀ (r j : Nat), r + j = 512 → ∀ (ls : Array Slot) (H : Heap) (locs : List Loc), lw_I dC dI cI cJ hf ad sd md oa b A9 s.heap j ls H locs → W p l e room_1 s m #[Value.ref b] below meth c H locs (23 + j) (222 + 6 * j) Q (F0 m 23 ls []) := by
  intro r
  induction r with
  | zero =>
    intro j hrj ls H locs hI
    have F9 := F
    obtain ⟨hx, hb, hml, hown, hts, hX, hbl, hl9, hL⟩ := F9
    have hI9 := hI
    obtain ⟨fk, fa, fb, fc, cm, st, n, mm, lv, ms, ck, th, aK, aA, aB, aC, aP, aV, aN, aM, aS, aF, bK, bA, bB, bC, bM, bS, bF, bN, g0, hR, hP, hD, hS, hl⟩ := hI
    refine lv_iload hx hb dL_law_23 (lv_at hl 4 rfl) ?_
    refine lv_aload_n hx hb dL_law_25 rfl (lv_at hl 0 rfl) ?_
    refine va_slen hx hb hX hbl hbA hS dL_law_26 ?_
    refine lv_iconst (v := 5) hx hb dL_law_27 (by decide) ?_
    refine lv_isub hx hb dL_law_28 ?_
    refine lv_icmp_gt (tgt := 599) hx hb dL_law_29 (by decide) (fun h => ?_) (fun h => ?_)
    · exact KE j ls H locs (by omega) hI9
    · exact absurd ((lw_end hL (i := 5 * j) (by omega)).mpr (by omega)) h
  | succ r ih =>
    intro j hrj ls H locs hI
    have F9 := F
    obtain ⟨hx, hb, hml, hown, hts, hX, hbl, hl9, hL⟩ := F9
    have hI9 := hI
    obtain ⟨fk, fa, fb, fc, cm, st, n, mm, lv, ms, ck, th, aK, aA, aB, aC, aP, aV, aN, aM, aS, aF, bK, bA, bB, bC, bM, bS, bF, bN, g0, hR, hP, hD, hS, hl⟩ := hI
    refine lv_iload hx hb dL_law_23 (lv_at hl 4 rfl) ?_
    refine lv_aload_n hx hb dL_law_25 rfl (lv_at hl 0 rfl) ?_
    refine va_slen hx hb hX hbl hbA hS dL_law_26 ?_
    refine lv_iconst (v := 5) hx hb dL_law_27 (by decide) ?_
    refine lv_isub hx hb dL_law_28 ?_
    refine lv_icmp_gt (tgt := 599) hx hb dL_law_29 (by decide) (fun h => ?_) (fun h => ?_)
    · exact KE j ls H locs (by omega) hI9
    · have hj5 : 5 * j + 5 ≤ L := Nat.le_of_not_lt fun z => h ((lw_end hL (i := 5 * j) (by omega)).mpr z)
      refine lw_body (sa := sa) ⟨F, hK, hE, hA, hbA, hj5, ?_⟩ hI9
      clear hI9 hR hP hD hS hl h
      intro ls H locs hI
      obtain ⟨fk, fa, fb, fc, cm, st, n, mm, lv, ms, ck, th, aK, aA, aB, aC, aP, aV, aN, aM, aS, aF, bK, bA, bB, bC, bM, bS, bF, bN, g0, hR, hP, hD, hS, hl⟩ := hI
      refine lv_iinc (k := 4) (v := nI (5 * (j + 1))) (lv' := [(4, .int (nI (5 * (j + 1)))), (0, .ref b), (1, .ref (hf 0)), (2, .ref (md 0)), (3, .ref oa)]) hx hb dL_law_593 hl rfl (by rw [Nat.mul_succ]; exact nI_add _ _) (by decide) rfl (fun ls hl => ?_)
      refine lv_goto (tgt := 23) hx hb dL_law_596 (by decide) ?_
      exact ih (j + 1) (by omega) ls H locs ⟨fk, fa, fb, fc, cm, st, n, mm, lv, ms, ck, th, aK, aA, aB, aC, aP, aV, aN, aM, aS, aF, bK, bA, bB, bC, bM, bS, bF, bN, g0, hR, hP, hD, hS, lv_sub hl [1, 2, 3, 4, 0] rfl⟩
