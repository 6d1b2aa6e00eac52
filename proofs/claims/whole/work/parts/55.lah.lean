theorem xo_in : vp_in 0 1 := show ¬ ((0 : Int32) < 0 ∨ 1 ≤ (0 : Int32).toNatClampNeg) by decide
section LAH
variable (l : Launch) (dC : Nat → ClassId) (dI : Nat → Nat → Nat) (cI : ClassId) (hf ad sd : Nat → Nat) (aF : Nat → Int32) (ms ck : Int32) (aK aA aB aC aP aV aN : Nat → Int32) (n : Nat) (aM aS : Nat → Int32) (mm lv : Nat) (cJ : ClassId) (oa : Nat) (g0 : Nat → Int64)
set_option maxHeartbeats 4000000 in
set_option maxRecDepth 100000 in
theorem ctL_term0 (hl9 : l.stackTraces = false) (sa : Nat → Nat) (sz : Nat) (hn : n ≤ 12) (fk : Nat → Nat) (hk : ∀ t, t < n → aK t = nI (fk t)) (hk2 : ∀ t, t < n → fk t < 20) (kd a0 b0 c0 : Int32) (hno : ¬ pq_alw fk n kd a0 b0 c0) : Met l yL_term wsL_term ({ frames := 7, cells := 1, slots := 6, locals := 127 }) (va_Pc [.ref (hf 0), .int kd, .int a0, .int b0, .int c0, .ref oa] (fun U => U.heap.size = sz ∧ va_P (dC, dI) vwCl (wF cI hf ad sd aF ms ck aK aA aB aC aP aV aN n aM aS mm lv ++ [(oa, .inl (cJ, 1, .inr (.inl g0)))]) U.heap ∧ va_K (dC, dI) vwCl [(cI, .int), (cJ, .long)] U ∧ va_D (fun _ => True) (wF cI hf ad sd aF ms ck aK aA aB aC aP aV aN n aM aS mm lv ++ [(oa, .inl (cJ, 1, .inr (.inl g0)))]) ∧ tx_E (va_A (wF cI hf ad sd aF ms ck aK aA aB aC aP aV aN n aM aS mm lv ++ [(oa, .inl (cJ, 1, .inr (.inl g0)))]) sz) sa U U.heap)) (va_Qi (fun r _ => r = 1) (fun (u : Unit) t9 => va_P (dC, dI) vwCl (wF cI hf ad sd aF ms ck aK aA aB aC aP aV aN n aM aS mm lv ++ [(oa, .inl (cJ, 1, .inr (.inl g0)))]) t9.heap ∧ va_K (dC, dI) vwCl [(cI, .int), (cJ, .long)] t9 ∧ va_D (va_A (wF cI hf ad sd aF ms ck aK aA aB aC aP aV aN n aM aS mm lv ++ [(oa, .inl (cJ, 1, .inr (.inl g0)))]) sz) (wF cI hf ad sd aF ms ck aK aA aB aC aP aV aN n aM aS mm lv ++ [(oa, .inl (cJ, 1, .inr (.inl g0)))])) (va_A (wF cI hf ad sd aF ms ck aK aA aB aC aP aV aN n aM aS mm lv ++ [(oa, .inl (cJ, 1, .inr (.inl g0)))]) sz)) 1 6 (va_A (wF cI hf ad sd aF ms ck aK aA aB aC aP aV aN n aM aS mm lv ++ [(oa, .inl (cJ, 1, .inr (.inl g0)))]) sz) := by
  refine va_MetW (cc := cL_term) (maxL := 7) (ret := (some .int)) (by decide) rfl ?_
  intro p e s m args below meth c s₁ B hml hv
  obtain ⟨rfl, hsz, hP, hK, hD0, hE⟩ := hv
  subst hsz
  have hx := B.exec
  have hb := B.bytes
  have hr := B.returns
  have hts := atoms_spec (ws := wsL_term) B.pre
  have hown : s.vm.findClass RL = some m.cls := findClass_of_methodNamed B.named
  have hlocks := B.notSynchronized
  have hl := lv_entry ([.ref (hf 0), .int kd, .int a0, .int b0, .int c0, .ref oa]) (n := 7) (Nat.le_of_ble_eq_true rfl)
  rw [lg_entry_eq]
  generalize (lg_sl ([.ref (hf 0), .int kd, .int a0, .int b0, .int c0, .ref oa]) ++ List.replicate (7 - (lg_sl ([.ref (hf 0), .int kd, .int a0, .int b0, .int c0, .ref oa])).length) Slot.unset).toArray = ls at hl ⊢
  have hl : lv_has ls 7 [(0, .ref (hf 0)), (1, .int kd), (2, .int a0), (3, .int b0), (4, .int c0), (5, .ref oa)] := hl
  have htab := vx_table (x := yL_term) B (hts _ List.mem_cons_self)
  have hKc := hK.sub (tys' := [(cI, .int)]) [0] rfl
  have hD := hD0.self (sz := s.heap.size)
  generalize hAe : va_A (wF cI hf ad sd aF ms ck aK aA aB aC aP aV aN n aM aS mm lv ++ [(oa, .inl (cJ, 1, .inr (.inl g0)))]) s.heap.size = A9 at hD hE ⊢
  have hA : ∀ q : Nat, s.heap.size ≤ q → A9 q := fun q h => by rw [← hAe]; exact Or.inr h
  have hS : va_S A9 s.heap s.heap [] := va_S.rf
  refine lv_aload hx hb dL_term_0 (lv_at hl 5 rfl) ?_
  refine lv_iconst (v := 0) hx hb dL_term_2 (by decide) ?_
  refine lv_aload_n hx hb dL_term_3 rfl (lv_at hl 0 rfl) ?_
  refine lv_iload_n hx hb dL_term_4 rfl (lv_at hl 1 rfl) ?_
  refine lv_iload_n hx hb dL_term_5 rfl (lv_at hl 2 rfl) ?_
  refine lv_iload_n hx hb dL_term_6 rfl (lv_at hl 3 rfl) ?_
  refine lv_iload hx hb dL_term_7 (lv_at hl 4 rfl) ?_
  have hPc := hP.sub (ws' := (wF cI hf ad sd aF ms ck aK aA aB aC aP aV aN n aM aS mm lv)) [0, 1, 2, 3, 4, 5, 6, 7, 8, 9, 10, 11, 12] rfl
  have hDc := hD.sub (ws' := (wF cI hf ad sd aF ms ck aK aA aB aC aP aV aN n aM aS mm lv)) [0, 1, 2, 3, 4, 5, 6, 7, 8, 9, 10, 11, 12] (by decide) rfl
  have hFc := va_free (wc := (wF cI hf ad sd aF ms ck aK aA aB aC aP aV aN n aM aS mm lv)) hD hS hA [0, 1, 2, 3, 4, 5, 6, 7, 8, 9, 10, 11, 12] rfl
  refine vx_calli (vx_runV (C := RX4) (b := hf 0) (As := [.int kd, .int a0, .int b0, .int c0]) (rest := [.int 0, .ref oa]) ⟨hx, hb, hml, hown, hts⟩ (ctX4_term0 l dC dI cI hf ad sd aF ms ck aK aA aB aC aP aV aN n aM aS mm lv hl9 sa s.heap.size hn fk hk hk2 kd a0 b0 c0 hno) (cwV 4 hts (wA_wsV wm_ml_L_7 wm_im_X4_term wm_se_X4_term wm_in_X4 wm_cd_X4_term) rfl rfl rfl (by decide +kernel) ⟨Nat.le_of_ble_eq_true rfl, Nat.le_of_ble_eq_true rfl⟩) ⟨fun a U g mk q => by obtain ⟨q0, q1, qP, qK, qD, qE⟩ := q; exact ⟨q0, q1, qP, va_K.moved (u := U) (U := U.calling g mk a) (Vm.Alike.refl U.vm) qK, qD, tx_E.same (s := U) (U := U.calling g mk a) rfl qE⟩, va_recv (q := (RX4, TX4, 5)) (q0 := 0) hK hP rfl rfl, fun U hU hW => ⟨rfl, by rw [hU], by rw [hU]; exact hPc, va_K.moved hW.alike hKc, hDc.weaken (fun _ _ _ _ => trivial), by rw [hU]; exact (hE.narrow hFc).warm hW⟩⟩ rfl rfl hl.1 rfl (lv_room (Nat.le_of_ble_eq_true rfl)) dL_term_9 ⟨Nat.le_of_ble_eq_true rfl, Nat.le_of_ble_eq_true rfl⟩) hS (fun q _ h => hFc q h) hFc (fun q _ h => hFc q h) (fun E ce q9 u t8 H1 locs ht8 hvm8 hpx hBX hz1 hk1 hS hq9 hce hcl => ?_) (fun r u t8 H1 locs _ _ hF => hF.elim)
  obtain ⟨rfl, hP1⟩ := hBX
  rw [ht8] at hP1
  have hD1 := hDc.self (sz := s.heap.size)
  obtain ⟨hP, hD⟩ := va_join (wr := [(oa, .inl (cJ, 1, .inr (.inl g0)))]) (w1 := [(hf 0, .inr (2, [.ref (ad 0), .ref (sd 0), .ref (hf 1), .int ms, .int ck])), (hf 1, .inl (cI, 2, .inl aF)), (ad 0, .inr (1, [.ref (ad 1), .ref (ad 2), .ref (ad 3), .ref (ad 4), .ref (ad 5), .ref (ad 6), .ref (ad 7), .int (nI n)])), (ad 1, .inl (cI, 12, .inl aK)), (ad 2, .inl (cI, 12, .inl aA)), (ad 3, .inl (cI, 12, .inl aB)), (ad 4, .inl (cI, 12, .inl aC)), (ad 5, .inl (cI, 12, .inl aP)), (ad 6, .inl (cI, 2, .inl aV)), (ad 7, .inl (cI, 12, .inl aN)), (sd 0, .inr (0, [.ref (sd 1), .ref (sd 2), .int (nI mm), .int (nI lv)])), (sd 1, .inl (cI, 20, .inl aM)), (sd 2, .inl (cI, 6, .inl aS))]) hP hD [0, 1, 2, 3, 4, 5, 6, 7, 8, 9, 10, 11, 12] [13] rfl rfl (by decide) (by decide) hk1 hFc hP1 hD1
  have hP := hP.sub (ws' := [(hf 0, .inr (2, [.ref (ad 0), .ref (sd 0), .ref (hf 1), .int ms, .int ck])), (hf 1, .inl (cI, 2, .inl aF)), (ad 0, .inr (1, [.ref (ad 1), .ref (ad 2), .ref (ad 3), .ref (ad 4), .ref (ad 5), .ref (ad 6), .ref (ad 7), .int (nI n)])), (ad 1, .inl (cI, 12, .inl aK)), (ad 2, .inl (cI, 12, .inl aA)), (ad 3, .inl (cI, 12, .inl aB)), (ad 4, .inl (cI, 12, .inl aC)), (ad 5, .inl (cI, 12, .inl aP)), (ad 6, .inl (cI, 2, .inl aV)), (ad 7, .inl (cI, 12, .inl aN)), (sd 0, .inr (0, [.ref (sd 1), .ref (sd 2), .int (nI mm), .int (nI lv)])), (sd 1, .inl (cI, 20, .inl aM)), (sd 2, .inl (cI, 6, .inl aS)), (oa, .inl (cJ, 1, .inr (.inl g0)))]) [1, 2, 3, 4, 5, 6, 7, 8, 9, 10, 11, 12, 13, 0] rfl
  have hD := hD.sub (ws' := [(hf 0, .inr (2, [.ref (ad 0), .ref (sd 0), .ref (hf 1), .int ms, .int ck])), (hf 1, .inl (cI, 2, .inl aF)), (ad 0, .inr (1, [.ref (ad 1), .ref (ad 2), .ref (ad 3), .ref (ad 4), .ref (ad 5), .ref (ad 6), .ref (ad 7), .int (nI n)])), (ad 1, .inl (cI, 12, .inl aK)), (ad 2, .inl (cI, 12, .inl aA)), (ad 3, .inl (cI, 12, .inl aB)), (ad 4, .inl (cI, 12, .inl aC)), (ad 5, .inl (cI, 12, .inl aP)), (ad 6, .inl (cI, 2, .inl aV)), (ad 7, .inl (cI, 12, .inl aN)), (sd 0, .inr (0, [.ref (sd 1), .ref (sd 2), .int (nI mm), .int (nI lv)])), (sd 1, .inl (cI, 20, .inl aM)), (sd 2, .inl (cI, 6, .inl aS)), (oa, .inl (cJ, 1, .inr (.inl g0)))]) [1, 2, 3, 4, 5, 6, 7, 8, 9, 10, 11, 12, 13, 0] (by decide) rfl
  refine vx_catch (own := RL) (name := "java/lang/IllegalArgumentException") hown [] ⟨0, 14, 17, 13⟩ [⟨0, 14, 21, 15⟩] (by rw [htab]; rfl) (fun z hz => nomatch hz) (by decide) (by decide) (hts _ (List.mem_cons_of_mem _ wm_cl_L_13)) (va_Nw.use rfl hE.2.1.1) hq9 hce hcl ?_
  refine lv_astore (lv' := [(6, .ref q9), (0, .ref (hf 0)), (1, .int kd), (2, .int a0), (3, .int b0), (4, .int c0), (5, .ref oa)]) hx hb dL_term_17 hl (by decide) rfl (fun ls hl => ?_)
  refine lv_iconst (v := 1) hx hb dL_term_19 (by decide) ?_
  exact W.iret (v := 1) hx hb hr (fun t9 ht9 hW9 => ⟨⟨1, (), rfl, rfl, by rw [ht9]; exact hP, va_K.moved hW9.alike hK, hD⟩, hS.F ht9⟩) hS.2.2 dL_term_20
set_option maxHeartbeats 4000000 in
set_option maxRecDepth 100000 in
theorem ctL_term1 (sz : Nat) (hn : n ≤ 12) (fk fa fb fc : Nat → Nat) (hk : ∀ t, t < n → aK t = nI (fk t)) (ha : ∀ t, t < n → aA t = nI (fa t)) (hbb : ∀ t, t < n → aB t = nI (fb t)) (hc : ∀ t, t < n → aC t = nI (fc t)) (hT : pv_TI fk fa fb fc n) (kd a0 b0 c0 : Int32) (κ α β γ : Nat) (harg : pq_arg fk n kd a0 b0 c0 κ α β γ) (t : Nat) (hfd : pq_fd fk fa fb fc κ α β γ n 0 = some t) : Met l yL_term wsL_term ({ frames := 7, cells := 0, slots := 0, locals := 127 }) (va_Pc [.ref (hf 0), .int kd, .int a0, .int b0, .int c0, .ref oa] (fun U => U.heap.size = sz ∧ va_P (dC, dI) vwCl (wF cI hf ad sd aF ms ck aK aA aB aC aP aV aN n aM aS mm lv ++ [(oa, .inl (cJ, 1, .inr (.inl g0)))]) U.heap ∧ va_K (dC, dI) vwCl [(cI, .int), (cJ, .long)] U ∧ va_D (fun _ => True) (wF cI hf ad sd aF ms ck aK aA aB aC aP aV aN n aM aS mm lv ++ [(oa, .inl (cJ, 1, .inr (.inl g0)))]))) (va_Qi (fun r _ => r = 0) (fun (u : Unit) t9 => va_P (dC, dI) vwCl (wF cI hf ad sd aF ms ck aK aA aB aC aP aV aN n aM aS mm lv ++ [(oa, .inl (cJ, 1, .inr (.inl (vp_updL g0 0 (nI t).toInt64))))]) t9.heap ∧ va_K (dC, dI) vwCl [(cI, .int), (cJ, .long)] t9 ∧ va_D (va_A (wF cI hf ad sd aF ms ck aK aA aB aC aP aV aN n aM aS mm lv ++ [(oa, .inl (cJ, 1, .inr (.inl g0)))]) sz) (wF cI hf ad sd aF ms ck aK aA aB aC aP aV aN n aM aS mm lv ++ [(oa, .inl (cJ, 1, .inr (.inl (vp_updL g0 0 (nI t).toInt64))))])) (va_A (wF cI hf ad sd aF ms ck aK aA aB aC aP aV aN n aM aS mm lv ++ [(oa, .inl (cJ, 1, .inr (.inl g0)))]) sz)) 0 0 (va_A (wF cI hf ad sd aF ms ck aK aA aB aC aP aV aN n aM aS mm lv ++ [(oa, .inl (cJ, 1, .inr (.inl g0)))]) sz) := by
  refine va_MetW (cc := cL_term) (maxL := 7) (ret := (some .int)) (by decide) rfl ?_
  intro p e s m args below meth c s₁ B hml hv
  obtain ⟨rfl, hsz, hP, hK, hD0⟩ := hv
  subst hsz
  have hx := B.exec
  have hb := B.bytes
  have hr := B.returns
  have hts := atoms_spec (ws := wsL_term) B.pre
  have hown : s.vm.findClass RL = some m.cls := findClass_of_methodNamed B.named
  have hlocks := B.notSynchronized
  have hl := lv_entry ([.ref (hf 0), .int kd, .int a0, .int b0, .int c0, .ref oa]) (n := 7) (Nat.le_of_ble_eq_true rfl)
  rw [lg_entry_eq]
  generalize (lg_sl ([.ref (hf 0), .int kd, .int a0, .int b0, .int c0, .ref oa]) ++ List.replicate (7 - (lg_sl ([.ref (hf 0), .int kd, .int a0, .int b0, .int c0, .ref oa])).length) Slot.unset).toArray = ls at hl ⊢
  have hl : lv_has ls 7 [(0, .ref (hf 0)), (1, .int kd), (2, .int a0), (3, .int b0), (4, .int c0), (5, .ref oa)] := hl
  have hKc := hK.sub (tys' := [(cI, .int)]) [0] rfl
  have hD := hD0.self (sz := s.heap.size)
  generalize hAe : va_A (wF cI hf ad sd aF ms ck aK aA aB aC aP aV aN n aM aS mm lv ++ [(oa, .inl (cJ, 1, .inr (.inl g0)))]) s.heap.size = A9 at hD ⊢
  have hA : ∀ q : Nat, s.heap.size ≤ q → A9 q := fun q h => by rw [← hAe]; exact Or.inr h
  have hS : va_S A9 s.heap s.heap [] := va_S.rf
  refine lv_aload hx hb dL_term_0 (lv_at hl 5 rfl) ?_
  refine lv_iconst (v := 0) hx hb dL_term_2 (by decide) ?_
  refine lv_aload_n hx hb dL_term_3 rfl (lv_at hl 0 rfl) ?_
  refine lv_iload_n hx hb dL_term_4 rfl (lv_at hl 1 rfl) ?_
  refine lv_iload_n hx hb dL_term_5 rfl (lv_at hl 2 rfl) ?_
  refine lv_iload_n hx hb dL_term_6 rfl (lv_at hl 3 rfl) ?_
  refine lv_iload hx hb dL_term_7 (lv_at hl 4 rfl) ?_
  have hPc := hP.sub (ws' := (wF cI hf ad sd aF ms ck aK aA aB aC aP aV aN n aM aS mm lv)) [0, 1, 2, 3, 4, 5, 6, 7, 8, 9, 10, 11, 12] rfl
  have hDc := hD.sub (ws' := (wF cI hf ad sd aF ms ck aK aA aB aC aP aV aN n aM aS mm lv)) [0, 1, 2, 3, 4, 5, 6, 7, 8, 9, 10, 11, 12] (by decide) rfl
  have hFc := va_free (wc := (wF cI hf ad sd aF ms ck aK aA aB aC aP aV aN n aM aS mm lv)) hD hS hA [0, 1, 2, 3, 4, 5, 6, 7, 8, 9, 10, 11, 12] rfl
  refine va_calli (va_runV (C := RX4) (b := hf 0) (As := [.int kd, .int a0, .int b0, .int c0]) (rest := [.int 0, .ref oa]) ⟨hx, hb, hml, hown, hts⟩ (ctX4_term1 l dC dI cI hf ad sd aF ms ck aK aA aB aC aP aV aN n aM aS mm lv s.heap.size hn fk fa fb fc hk ha hbb hc hT kd a0 b0 c0 κ α β γ harg t hfd) (cwV 4 hts (wA_wsV wm_ml_L_7 wm_im_X4_term wm_se_X4_term wm_in_X4 wm_cd_X4_term) rfl rfl rfl (by decide +kernel) ⟨Nat.le_of_ble_eq_true rfl, Nat.le_of_ble_eq_true rfl⟩) ⟨fun a U g mk q => by obtain ⟨q0, q1, qP, qK, qD⟩ := q; exact ⟨q0, q1, qP, va_K.moved (u := U) (U := U.calling g mk a) (Vm.Alike.refl U.vm) qK, qD⟩, va_recv (q := (RX4, TX4, 5)) (q0 := 0) hK hP rfl rfl, fun U hU hW => ⟨rfl, by rw [hU], by rw [hU]; exact hPc, va_K.moved hW.alike hKc, hDc.weaken (fun _ _ _ _ => trivial)⟩⟩ rfl rfl hl.1 rfl (lv_room (Nat.le_of_ble_eq_true rfl)) dL_term_9 ⟨Nat.zero_le _, Nat.zero_le _⟩) hS (fun q _ h => hFc q h) hFc (fun r1 u t8 H1 locs ht8 hvm8 er1 hB hz1 hk1 hS => ?_)
  obtain ⟨hP1, hK1, hD1⟩ := hB
  rw [ht8] at hP1
  obtain ⟨hP, hD⟩ := va_join (wr := [(oa, .inl (cJ, 1, .inr (.inl g0)))]) (w1 := [(hf 0, .inr (2, [.ref (ad 0), .ref (sd 0), .ref (hf 1), .int ms, .int ck])), (hf 1, .inl (cI, 2, .inl aF)), (ad 0, .inr (1, [.ref (ad 1), .ref (ad 2), .ref (ad 3), .ref (ad 4), .ref (ad 5), .ref (ad 6), .ref (ad 7), .int (nI n)])), (ad 1, .inl (cI, 12, .inl aK)), (ad 2, .inl (cI, 12, .inl aA)), (ad 3, .inl (cI, 12, .inl aB)), (ad 4, .inl (cI, 12, .inl aC)), (ad 5, .inl (cI, 12, .inl aP)), (ad 6, .inl (cI, 2, .inl aV)), (ad 7, .inl (cI, 12, .inl aN)), (sd 0, .inr (0, [.ref (sd 1), .ref (sd 2), .int (nI mm), .int (nI lv)])), (sd 1, .inl (cI, 20, .inl aM)), (sd 2, .inl (cI, 6, .inl aS))]) hP hD [0, 1, 2, 3, 4, 5, 6, 7, 8, 9, 10, 11, 12] [13] rfl rfl (by decide) (by decide) hk1 hFc hP1 hD1
  have hP := hP.sub (ws' := [(hf 0, .inr (2, [.ref (ad 0), .ref (sd 0), .ref (hf 1), .int ms, .int ck])), (hf 1, .inl (cI, 2, .inl aF)), (ad 0, .inr (1, [.ref (ad 1), .ref (ad 2), .ref (ad 3), .ref (ad 4), .ref (ad 5), .ref (ad 6), .ref (ad 7), .int (nI n)])), (ad 1, .inl (cI, 12, .inl aK)), (ad 2, .inl (cI, 12, .inl aA)), (ad 3, .inl (cI, 12, .inl aB)), (ad 4, .inl (cI, 12, .inl aC)), (ad 5, .inl (cI, 12, .inl aP)), (ad 6, .inl (cI, 2, .inl aV)), (ad 7, .inl (cI, 12, .inl aN)), (sd 0, .inr (0, [.ref (sd 1), .ref (sd 2), .int (nI mm), .int (nI lv)])), (sd 1, .inl (cI, 20, .inl aM)), (sd 2, .inl (cI, 6, .inl aS)), (oa, .inl (cJ, 1, .inr (.inl g0)))]) [1, 2, 3, 4, 5, 6, 7, 8, 9, 10, 11, 12, 13, 0] rfl
  have hD := hD.sub (ws' := [(hf 0, .inr (2, [.ref (ad 0), .ref (sd 0), .ref (hf 1), .int ms, .int ck])), (hf 1, .inl (cI, 2, .inl aF)), (ad 0, .inr (1, [.ref (ad 1), .ref (ad 2), .ref (ad 3), .ref (ad 4), .ref (ad 5), .ref (ad 6), .ref (ad 7), .int (nI n)])), (ad 1, .inl (cI, 12, .inl aK)), (ad 2, .inl (cI, 12, .inl aA)), (ad 3, .inl (cI, 12, .inl aB)), (ad 4, .inl (cI, 12, .inl aC)), (ad 5, .inl (cI, 12, .inl aP)), (ad 6, .inl (cI, 2, .inl aV)), (ad 7, .inl (cI, 12, .inl aN)), (sd 0, .inr (0, [.ref (sd 1), .ref (sd 2), .int (nI mm), .int (nI lv)])), (sd 1, .inl (cI, 20, .inl aM)), (sd 2, .inl (cI, 6, .inl aS)), (oa, .inl (cJ, 1, .inr (.inl g0)))]) [1, 2, 3, 4, 5, 6, 7, 8, 9, 10, 11, 12, 13, 0] (by decide) rfl
  generalize H1 = H at hP hS ⊢
  subst er1
  refine lv_i2l (v := (nI t).toInt64) hx hb dL_term_12 rfl ?_
  refine va_last (i := 0) hx hb hK hP hD hS 13 1 rfl rfl xo_in dL_term_13 (fun H locs hP hD hS => ?_)
  have hP : va_P (dC, dI) vwCl [(hf 0, .inr (2, [.ref (ad 0), .ref (sd 0), .ref (hf 1), .int ms, .int ck])), (hf 1, .inl (cI, 2, .inl aF)), (ad 0, .inr (1, [.ref (ad 1), .ref (ad 2), .ref (ad 3), .ref (ad 4), .ref (ad 5), .ref (ad 6), .ref (ad 7), .int (nI n)])), (ad 1, .inl (cI, 12, .inl aK)), (ad 2, .inl (cI, 12, .inl aA)), (ad 3, .inl (cI, 12, .inl aB)), (ad 4, .inl (cI, 12, .inl aC)), (ad 5, .inl (cI, 12, .inl aP)), (ad 6, .inl (cI, 2, .inl aV)), (ad 7, .inl (cI, 12, .inl aN)), (sd 0, .inr (0, [.ref (sd 1), .ref (sd 2), .int (nI mm), .int (nI lv)])), (sd 1, .inl (cI, 20, .inl aM)), (sd 2, .inl (cI, 6, .inl aS)), (oa, .inl (cJ, 1, .inr (.inl (vp_updL g0 0 ((nI t).toInt64)))))] H := hP
  have hD : va_D A9 [(hf 0, .inr (2, [.ref (ad 0), .ref (sd 0), .ref (hf 1), .int ms, .int ck])), (hf 1, .inl (cI, 2, .inl aF)), (ad 0, .inr (1, [.ref (ad 1), .ref (ad 2), .ref (ad 3), .ref (ad 4), .ref (ad 5), .ref (ad 6), .ref (ad 7), .int (nI n)])), (ad 1, .inl (cI, 12, .inl aK)), (ad 2, .inl (cI, 12, .inl aA)), (ad 3, .inl (cI, 12, .inl aB)), (ad 4, .inl (cI, 12, .inl aC)), (ad 5, .inl (cI, 12, .inl aP)), (ad 6, .inl (cI, 2, .inl aV)), (ad 7, .inl (cI, 12, .inl aN)), (sd 0, .inr (0, [.ref (sd 1), .ref (sd 2), .int (nI mm), .int (nI lv)])), (sd 1, .inl (cI, 20, .inl aM)), (sd 2, .inl (cI, 6, .inl aS)), (oa, .inl (cJ, 1, .inr (.inl (vp_updL g0 0 ((nI t).toInt64)))))] := hD
  refine lv_goto (tgt := 25) hx hb dL_term_14 (by decide) ?_
  refine lv_iconst (v := 0) hx hb dL_term_25 (by decide) ?_
  exact W.iret (v := 0) hx hb hr (fun t9 ht9 hW9 => ⟨⟨0, (), rfl, rfl, by rw [ht9]; exact hP, va_K.moved hW9.alike hK, hD⟩, hS.F ht9⟩) hS.2.2 dL_term_26
set_option maxHeartbeats 4000000 in
set_option maxRecDepth 100000 in
theorem ctL_term2 (hl9 : l.stackTraces = false) (sa : Nat → Nat) (sz : Nat) (hn : n ≤ 12) (fk fa fb fc : Nat → Nat) (hk : ∀ t, t < n → aK t = nI (fk t)) (ha : ∀ t, t < n → aA t = nI (fa t)) (hbb : ∀ t, t < n → aB t = nI (fb t)) (hc : ∀ t, t < n → aC t = nI (fc t)) (hT : pv_TI fk fa fb fc n) (kd a0 b0 c0 : Int32) (κ α β γ : Nat) (harg : pq_arg fk n kd a0 b0 c0 κ α β γ) (hfd : pq_fd fk fa fb fc κ α β γ n 0 = none) (hn12 : n = 12) : Met l yL_term wsL_term ({ frames := 7, cells := 1, slots := 6, locals := 127 }) (va_Pc [.ref (hf 0), .int kd, .int a0, .int b0, .int c0, .ref oa] (fun U => U.heap.size = sz ∧ va_P (dC, dI) vwCl (wF cI hf ad sd aF ms ck aK aA aB aC aP aV aN n aM aS mm lv ++ [(oa, .inl (cJ, 1, .inr (.inl g0)))]) U.heap ∧ va_K (dC, dI) vwCl [(cI, .int), (cJ, .long)] U ∧ va_D (fun _ => True) (wF cI hf ad sd aF ms ck aK aA aB aC aP aV aN n aM aS mm lv ++ [(oa, .inl (cJ, 1, .inr (.inl g0)))]) ∧ tx_E (va_A (wF cI hf ad sd aF ms ck aK aA aB aC aP aV aN n aM aS mm lv ++ [(oa, .inl (cJ, 1, .inr (.inl g0)))]) sz) sa U U.heap)) (va_Qi (fun r _ => r = 2) (fun (u : Unit) t9 => va_P (dC, dI) vwCl (wF cI hf ad sd aF ms ck aK aA aB aC aP aV aN n aM aS mm lv ++ [(oa, .inl (cJ, 1, .inr (.inl g0)))]) t9.heap ∧ va_K (dC, dI) vwCl [(cI, .int), (cJ, .long)] t9 ∧ va_D (va_A (wF cI hf ad sd aF ms ck aK aA aB aC aP aV aN n aM aS mm lv ++ [(oa, .inl (cJ, 1, .inr (.inl g0)))]) sz) (wF cI hf ad sd aF ms ck aK aA aB aC aP aV aN n aM aS mm lv ++ [(oa, .inl (cJ, 1, .inr (.inl g0)))])) (va_A (wF cI hf ad sd aF ms ck aK aA aB aC aP aV aN n aM aS mm lv ++ [(oa, .inl (cJ, 1, .inr (.inl g0)))]) sz)) 1 6 (va_A (wF cI hf ad sd aF ms ck aK aA aB aC aP aV aN n aM aS mm lv ++ [(oa, .inl (cJ, 1, .inr (.inl g0)))]) sz) := by
  refine va_MetW (cc := cL_term) (maxL := 7) (ret := (some .int)) (by decide) rfl ?_
  intro p e s m args below meth c s₁ B hml hv
  obtain ⟨rfl, hsz, hP, hK, hD0, hE⟩ := hv
  subst hsz
  have hx := B.exec
  have hb := B.bytes
  have hr := B.returns
  have hts := atoms_spec (ws := wsL_term) B.pre
  have hown : s.vm.findClass RL = some m.cls := findClass_of_methodNamed B.named
  have hlocks := B.notSynchronized
  have hl := lv_entry ([.ref (hf 0), .int kd, .int a0, .int b0, .int c0, .ref oa]) (n := 7) (Nat.le_of_ble_eq_true rfl)
  rw [lg_entry_eq]
  generalize (lg_sl ([.ref (hf 0), .int kd, .int a0, .int b0, .int c0, .ref oa]) ++ List.replicate (7 - (lg_sl ([.ref (hf 0), .int kd, .int a0, .int b0, .int c0, .ref oa])).length) Slot.unset).toArray = ls at hl ⊢
  have hl : lv_has ls 7 [(0, .ref (hf 0)), (1, .int kd), (2, .int a0), (3, .int b0), (4, .int c0), (5, .ref oa)] := hl
  have htab := vx_table (x := yL_term) B (hts _ List.mem_cons_self)
  have hKc := hK.sub (tys' := [(cI, .int)]) [0] rfl
  have hD := hD0.self (sz := s.heap.size)
  generalize hAe : va_A (wF cI hf ad sd aF ms ck aK aA aB aC aP aV aN n aM aS mm lv ++ [(oa, .inl (cJ, 1, .inr (.inl g0)))]) s.heap.size = A9 at hD hE ⊢
  have hA : ∀ q : Nat, s.heap.size ≤ q → A9 q := fun q h => by rw [← hAe]; exact Or.inr h
  have hS : va_S A9 s.heap s.heap [] := va_S.rf
  refine lv_aload hx hb dL_term_0 (lv_at hl 5 rfl) ?_
  refine lv_iconst (v := 0) hx hb dL_term_2 (by decide) ?_
  refine lv_aload_n hx hb dL_term_3 rfl (lv_at hl 0 rfl) ?_
  refine lv_iload_n hx hb dL_term_4 rfl (lv_at hl 1 rfl) ?_
  refine lv_iload_n hx hb dL_term_5 rfl (lv_at hl 2 rfl) ?_
  refine lv_iload_n hx hb dL_term_6 rfl (lv_at hl 3 rfl) ?_
  refine lv_iload hx hb dL_term_7 (lv_at hl 4 rfl) ?_
  have hPc := hP.sub (ws' := (wF cI hf ad sd aF ms ck aK aA aB aC aP aV aN n aM aS mm lv)) [0, 1, 2, 3, 4, 5, 6, 7, 8, 9, 10, 11, 12] rfl
  have hDc := hD.sub (ws' := (wF cI hf ad sd aF ms ck aK aA aB aC aP aV aN n aM aS mm lv)) [0, 1, 2, 3, 4, 5, 6, 7, 8, 9, 10, 11, 12] (by decide) rfl
  have hFc := va_free (wc := (wF cI hf ad sd aF ms ck aK aA aB aC aP aV aN n aM aS mm lv)) hD hS hA [0, 1, 2, 3, 4, 5, 6, 7, 8, 9, 10, 11, 12] rfl
  refine vx_calli (vx_runV (C := RX4) (b := hf 0) (As := [.int kd, .int a0, .int b0, .int c0]) (rest := [.int 0, .ref oa]) ⟨hx, hb, hml, hown, hts⟩ (ctX4_term2 l dC dI cI hf ad sd aF ms ck aK aA aB aC aP aV aN n aM aS mm lv hl9 sa s.heap.size hn fk fa fb fc hk ha hbb hc hT kd a0 b0 c0 κ α β γ harg hfd hn12) (cwV 4 hts (wA_wsV wm_ml_L_7 wm_im_X4_term wm_se_X4_term wm_in_X4 wm_cd_X4_term) rfl rfl rfl (by decide +kernel) ⟨Nat.le_of_ble_eq_true rfl, Nat.le_of_ble_eq_true rfl⟩) ⟨fun a U g mk q => by obtain ⟨q0, q1, qP, qK, qD, qE⟩ := q; exact ⟨q0, q1, qP, va_K.moved (u := U) (U := U.calling g mk a) (Vm.Alike.refl U.vm) qK, qD, tx_E.same (s := U) (U := U.calling g mk a) rfl qE⟩, va_recv (q := (RX4, TX4, 5)) (q0 := 0) hK hP rfl rfl, fun U hU hW => ⟨rfl, by rw [hU], by rw [hU]; exact hPc, va_K.moved hW.alike hKc, hDc.weaken (fun _ _ _ _ => trivial), by rw [hU]; exact (hE.narrow hFc).warm hW⟩⟩ rfl rfl hl.1 rfl (lv_room (Nat.le_of_ble_eq_true rfl)) dL_term_9 ⟨Nat.le_of_ble_eq_true rfl, Nat.le_of_ble_eq_true rfl⟩) hS (fun q _ h => hFc q h) hFc (fun q _ h => hFc q h) (fun E ce q9 u t8 H1 locs ht8 hvm8 hpx hBX hz1 hk1 hS hq9 hce hcl => ?_) (fun r u t8 H1 locs _ _ hF => hF.elim)
  obtain ⟨rfl, hP1⟩ := hBX
  rw [ht8] at hP1
  have hD1 := hDc.self (sz := s.heap.size)
  obtain ⟨hP, hD⟩ := va_join (wr := [(oa, .inl (cJ, 1, .inr (.inl g0)))]) (w1 := [(hf 0, .inr (2, [.ref (ad 0), .ref (sd 0), .ref (hf 1), .int ms, .int ck])), (hf 1, .inl (cI, 2, .inl aF)), (ad 0, .inr (1, [.ref (ad 1), .ref (ad 2), .ref (ad 3), .ref (ad 4), .ref (ad 5), .ref (ad 6), .ref (ad 7), .int (nI n)])), (ad 1, .inl (cI, 12, .inl aK)), (ad 2, .inl (cI, 12, .inl aA)), (ad 3, .inl (cI, 12, .inl aB)), (ad 4, .inl (cI, 12, .inl aC)), (ad 5, .inl (cI, 12, .inl aP)), (ad 6, .inl (cI, 2, .inl aV)), (ad 7, .inl (cI, 12, .inl aN)), (sd 0, .inr (0, [.ref (sd 1), .ref (sd 2), .int (nI mm), .int (nI lv)])), (sd 1, .inl (cI, 20, .inl aM)), (sd 2, .inl (cI, 6, .inl aS))]) hP hD [0, 1, 2, 3, 4, 5, 6, 7, 8, 9, 10, 11, 12] [13] rfl rfl (by decide) (by decide) hk1 hFc hP1 hD1
  have hP := hP.sub (ws' := [(hf 0, .inr (2, [.ref (ad 0), .ref (sd 0), .ref (hf 1), .int ms, .int ck])), (hf 1, .inl (cI, 2, .inl aF)), (ad 0, .inr (1, [.ref (ad 1), .ref (ad 2), .ref (ad 3), .ref (ad 4), .ref (ad 5), .ref (ad 6), .ref (ad 7), .int (nI n)])), (ad 1, .inl (cI, 12, .inl aK)), (ad 2, .inl (cI, 12, .inl aA)), (ad 3, .inl (cI, 12, .inl aB)), (ad 4, .inl (cI, 12, .inl aC)), (ad 5, .inl (cI, 12, .inl aP)), (ad 6, .inl (cI, 2, .inl aV)), (ad 7, .inl (cI, 12, .inl aN)), (sd 0, .inr (0, [.ref (sd 1), .ref (sd 2), .int (nI mm), .int (nI lv)])), (sd 1, .inl (cI, 20, .inl aM)), (sd 2, .inl (cI, 6, .inl aS)), (oa, .inl (cJ, 1, .inr (.inl g0)))]) [1, 2, 3, 4, 5, 6, 7, 8, 9, 10, 11, 12, 13, 0] rfl
  have hD := hD.sub (ws' := [(hf 0, .inr (2, [.ref (ad 0), .ref (sd 0), .ref (hf 1), .int ms, .int ck])), (hf 1, .inl (cI, 2, .inl aF)), (ad 0, .inr (1, [.ref (ad 1), .ref (ad 2), .ref (ad 3), .ref (ad 4), .ref (ad 5), .ref (ad 6), .ref (ad 7), .int (nI n)])), (ad 1, .inl (cI, 12, .inl aK)), (ad 2, .inl (cI, 12, .inl aA)), (ad 3, .inl (cI, 12, .inl aB)), (ad 4, .inl (cI, 12, .inl aC)), (ad 5, .inl (cI, 12, .inl aP)), (ad 6, .inl (cI, 2, .inl aV)), (ad 7, .inl (cI, 12, .inl aN)), (sd 0, .inr (0, [.ref (sd 1), .ref (sd 2), .int (nI mm), .int (nI lv)])), (sd 1, .inl (cI, 20, .inl aM)), (sd 2, .inl (cI, 6, .inl aS)), (oa, .inl (cJ, 1, .inr (.inl g0)))]) [1, 2, 3, 4, 5, 6, 7, 8, 9, 10, 11, 12, 13, 0] (by decide) rfl
  refine vx_catch (own := RL) (name := "java/lang/IllegalStateException") hown [⟨0, 14, 17, 13⟩] ⟨0, 14, 21, 15⟩ [] (by rw [htab]; rfl) (fun z hz => by rcases List.mem_singleton.mp hz with rfl; exact Or.inr ⟨by decide, "java/lang/IllegalArgumentException", hts _ (List.mem_cons_of_mem _ wm_cl_L_13), hE.2.2.1.1⟩) (by decide) (by decide) (hts _ (List.mem_cons_of_mem _ wm_cl_L_15)) (va_Nw.use rfl hE.2.1.2.1) hq9 hce hcl ?_
  refine lv_astore (lv' := [(6, .ref q9), (0, .ref (hf 0)), (1, .int kd), (2, .int a0), (3, .int b0), (4, .int c0), (5, .ref oa)]) hx hb dL_term_21 hl (by decide) rfl (fun ls hl => ?_)
  refine lv_iconst (v := 2) hx hb dL_term_23 (by decide) ?_
  exact W.iret (v := 2) hx hb hr (fun t9 ht9 hW9 => ⟨⟨2, (), rfl, rfl, by rw [ht9]; exact hP, va_K.moved hW9.alike hK, hD⟩, hS.F ht9⟩) hS.2.2 dL_term_24
set_option maxHeartbeats 4000000 in
set_option maxRecDepth 100000 in
theorem ctL_term3 (sz : Nat) (hn : n ≤ 12) (fk fa fb fc : Nat → Nat) (hk : ∀ t, t < n → aK t = nI (fk t)) (ha : ∀ t, t < n → aA t = nI (fa t)) (hbb : ∀ t, t < n → aB t = nI (fb t)) (hc : ∀ t, t < n → aC t = nI (fc t)) (hT : pv_TI fk fa fb fc n) (kd a0 b0 c0 : Int32) (κ α β γ : Nat) (harg : pq_arg fk n kd a0 b0 c0 κ α β γ) (hfd : pq_fd fk fa fb fc κ α β γ n 0 = none) (hn12 : n < 12) : Met l yL_term wsL_term ({ frames := 7, cells := 0, slots := 0, locals := 127 }) (va_Pc [.ref (hf 0), .int kd, .int a0, .int b0, .int c0, .ref oa] (fun U => U.heap.size = sz ∧ va_P (dC, dI) vwCl (wF cI hf ad sd aF ms ck aK aA aB aC aP aV aN n aM aS mm lv ++ [(oa, .inl (cJ, 1, .inr (.inl g0)))]) U.heap ∧ va_K (dC, dI) vwCl [(cI, .int), (cJ, .long)] U ∧ va_D (fun _ => True) (wF cI hf ad sd aF ms ck aK aA aB aC aP aV aN n aM aS mm lv ++ [(oa, .inl (cJ, 1, .inr (.inl g0)))]))) (va_Qi (fun r _ => r = 0) (fun (u : Unit) t9 => va_P (dC, dI) vwCl (wF cI hf ad sd aF ms ck (upd aK n (nI κ)) (upd aA n (nI α)) (upd aB n (nI β)) (upd aC n (nI γ)) (upd aP n (pp_new aP n κ α β γ)) (pc_nv (upd aP n (pp_new aP n κ α β γ)) aV n κ α 2) aN (n + 1) aM aS mm lv ++ [(oa, .inl (cJ, 1, .inr (.inl (vp_updL g0 0 (nI n).toInt64))))]) t9.heap ∧ va_K (dC, dI) vwCl [(cI, .int), (cJ, .long)] t9 ∧ va_D (va_A (wF cI hf ad sd aF ms ck aK aA aB aC aP aV aN n aM aS mm lv ++ [(oa, .inl (cJ, 1, .inr (.inl g0)))]) sz) (wF cI hf ad sd aF ms ck (upd aK n (nI κ)) (upd aA n (nI α)) (upd aB n (nI β)) (upd aC n (nI γ)) (upd aP n (pp_new aP n κ α β γ)) (pc_nv (upd aP n (pp_new aP n κ α β γ)) aV n κ α 2) aN (n + 1) aM aS mm lv ++ [(oa, .inl (cJ, 1, .inr (.inl (vp_updL g0 0 (nI n).toInt64))))])) (va_A (wF cI hf ad sd aF ms ck aK aA aB aC aP aV aN n aM aS mm lv ++ [(oa, .inl (cJ, 1, .inr (.inl g0)))]) sz)) 0 0 (va_A (wF cI hf ad sd aF ms ck aK aA aB aC aP aV aN n aM aS mm lv ++ [(oa, .inl (cJ, 1, .inr (.inl g0)))]) sz) := by
  refine va_MetW (cc := cL_term) (maxL := 7) (ret := (some .int)) (by decide) rfl ?_
  intro p e s m args below meth c s₁ B hml hv
  obtain ⟨rfl, hsz, hP, hK, hD0⟩ := hv
  subst hsz
  have hx := B.exec
  have hb := B.bytes
  have hr := B.returns
  have hts := atoms_spec (ws := wsL_term) B.pre
  have hown : s.vm.findClass RL = some m.cls := findClass_of_methodNamed B.named
  have hlocks := B.notSynchronized
  have hl := lv_entry ([.ref (hf 0), .int kd, .int a0, .int b0, .int c0, .ref oa]) (n := 7) (Nat.le_of_ble_eq_true rfl)
  rw [lg_entry_eq]
  generalize (lg_sl ([.ref (hf 0), .int kd, .int a0, .int b0, .int c0, .ref oa]) ++ List.replicate (7 - (lg_sl ([.ref (hf 0), .int kd, .int a0, .int b0, .int c0, .ref oa])).length) Slot.unset).toArray = ls at hl ⊢
  have hl : lv_has ls 7 [(0, .ref (hf 0)), (1, .int kd), (2, .int a0), (3, .int b0), (4, .int c0), (5, .ref oa)] := hl
  have hKc := hK.sub (tys' := [(cI, .int)]) [0] rfl
  have hD := hD0.self (sz := s.heap.size)
  generalize hAe : va_A (wF cI hf ad sd aF ms ck aK aA aB aC aP aV aN n aM aS mm lv ++ [(oa, .inl (cJ, 1, .inr (.inl g0)))]) s.heap.size = A9 at hD ⊢
  have hA : ∀ q : Nat, s.heap.size ≤ q → A9 q := fun q h => by rw [← hAe]; exact Or.inr h
  have hS : va_S A9 s.heap s.heap [] := va_S.rf
  refine lv_aload hx hb dL_term_0 (lv_at hl 5 rfl) ?_
  refine lv_iconst (v := 0) hx hb dL_term_2 (by decide) ?_
  refine lv_aload_n hx hb dL_term_3 rfl (lv_at hl 0 rfl) ?_
  refine lv_iload_n hx hb dL_term_4 rfl (lv_at hl 1 rfl) ?_
  refine lv_iload_n hx hb dL_term_5 rfl (lv_at hl 2 rfl) ?_
  refine lv_iload_n hx hb dL_term_6 rfl (lv_at hl 3 rfl) ?_
  refine lv_iload hx hb dL_term_7 (lv_at hl 4 rfl) ?_
  have hPc := hP.sub (ws' := (wF cI hf ad sd aF ms ck aK aA aB aC aP aV aN n aM aS mm lv)) [0, 1, 2, 3, 4, 5, 6, 7, 8, 9, 10, 11, 12] rfl
  have hDc := hD.sub (ws' := (wF cI hf ad sd aF ms ck aK aA aB aC aP aV aN n aM aS mm lv)) [0, 1, 2, 3, 4, 5, 6, 7, 8, 9, 10, 11, 12] (by decide) rfl
  have hFc := va_free (wc := (wF cI hf ad sd aF ms ck aK aA aB aC aP aV aN n aM aS mm lv)) hD hS hA [0, 1, 2, 3, 4, 5, 6, 7, 8, 9, 10, 11, 12] rfl
  refine va_calli (va_runV (C := RX4) (b := hf 0) (As := [.int kd, .int a0, .int b0, .int c0]) (rest := [.int 0, .ref oa]) ⟨hx, hb, hml, hown, hts⟩ (ctX4_term3 l dC dI cI hf ad sd aF ms ck aK aA aB aC aP aV aN n aM aS mm lv s.heap.size hn fk fa fb fc hk ha hbb hc hT kd a0 b0 c0 κ α β γ harg hfd hn12) (cwV 4 hts (wA_wsV wm_ml_L_7 wm_im_X4_term wm_se_X4_term wm_in_X4 wm_cd_X4_term) rfl rfl rfl (by decide +kernel) ⟨Nat.le_of_ble_eq_true rfl, Nat.le_of_ble_eq_true rfl⟩) ⟨fun a U g mk q => by obtain ⟨q0, q1, qP, qK, qD⟩ := q; exact ⟨q0, q1, qP, va_K.moved (u := U) (U := U.calling g mk a) (Vm.Alike.refl U.vm) qK, qD⟩, va_recv (q := (RX4, TX4, 5)) (q0 := 0) hK hP rfl rfl, fun U hU hW => ⟨rfl, by rw [hU], by rw [hU]; exact hPc, va_K.moved hW.alike hKc, hDc.weaken (fun _ _ _ _ => trivial)⟩⟩ rfl rfl hl.1 rfl (lv_room (Nat.le_of_ble_eq_true rfl)) dL_term_9 ⟨Nat.zero_le _, Nat.zero_le _⟩) hS (fun q _ h => hFc q h) hFc (fun r1 u t8 H1 locs ht8 hvm8 er1 hB hz1 hk1 hS => ?_)
  obtain ⟨hP1, hK1, hD1⟩ := hB
  rw [ht8] at hP1
  obtain ⟨hP, hD⟩ := va_join (wr := [(oa, .inl (cJ, 1, .inr (.inl g0)))]) (w1 := [(hf 0, .inr (2, [.ref (ad 0), .ref (sd 0), .ref (hf 1), .int ms, .int ck])), (hf 1, .inl (cI, 2, .inl aF)), (ad 0, .inr (1, [.ref (ad 1), .ref (ad 2), .ref (ad 3), .ref (ad 4), .ref (ad 5), .ref (ad 6), .ref (ad 7), .int (nI (n + 1))])), (ad 1, .inl (cI, 12, .inl (upd aK n (nI κ)))), (ad 2, .inl (cI, 12, .inl (upd aA n (nI α)))), (ad 3, .inl (cI, 12, .inl (upd aB n (nI β)))), (ad 4, .inl (cI, 12, .inl (upd aC n (nI γ)))), (ad 5, .inl (cI, 12, .inl (upd aP n (pp_new aP n κ α β γ)))), (ad 6, .inl (cI, 2, .inl (pc_nv (upd aP n (pp_new aP n κ α β γ)) aV n κ α 2))), (ad 7, .inl (cI, 12, .inl aN)), (sd 0, .inr (0, [.ref (sd 1), .ref (sd 2), .int (nI mm), .int (nI lv)])), (sd 1, .inl (cI, 20, .inl aM)), (sd 2, .inl (cI, 6, .inl aS))]) hP hD [0, 1, 2, 3, 4, 5, 6, 7, 8, 9, 10, 11, 12] [13] rfl rfl (by decide) (by decide) hk1 hFc hP1 hD1
  have hP := hP.sub (ws' := [(hf 0, .inr (2, [.ref (ad 0), .ref (sd 0), .ref (hf 1), .int ms, .int ck])), (hf 1, .inl (cI, 2, .inl aF)), (ad 0, .inr (1, [.ref (ad 1), .ref (ad 2), .ref (ad 3), .ref (ad 4), .ref (ad 5), .ref (ad 6), .ref (ad 7), .int (nI (n + 1))])), (ad 1, .inl (cI, 12, .inl (upd aK n (nI κ)))), (ad 2, .inl (cI, 12, .inl (upd aA n (nI α)))), (ad 3, .inl (cI, 12, .inl (upd aB n (nI β)))), (ad 4, .inl (cI, 12, .inl (upd aC n (nI γ)))), (ad 5, .inl (cI, 12, .inl (upd aP n (pp_new aP n κ α β γ)))), (ad 6, .inl (cI, 2, .inl (pc_nv (upd aP n (pp_new aP n κ α β γ)) aV n κ α 2))), (ad 7, .inl (cI, 12, .inl aN)), (sd 0, .inr (0, [.ref (sd 1), .ref (sd 2), .int (nI mm), .int (nI lv)])), (sd 1, .inl (cI, 20, .inl aM)), (sd 2, .inl (cI, 6, .inl aS)), (oa, .inl (cJ, 1, .inr (.inl g0)))]) [1, 2, 3, 4, 5, 6, 7, 8, 9, 10, 11, 12, 13, 0] rfl
  have hD := hD.sub (ws' := [(hf 0, .inr (2, [.ref (ad 0), .ref (sd 0), .ref (hf 1), .int ms, .int ck])), (hf 1, .inl (cI, 2, .inl aF)), (ad 0, .inr (1, [.ref (ad 1), .ref (ad 2), .ref (ad 3), .ref (ad 4), .ref (ad 5), .ref (ad 6), .ref (ad 7), .int (nI (n + 1))])), (ad 1, .inl (cI, 12, .inl (upd aK n (nI κ)))), (ad 2, .inl (cI, 12, .inl (upd aA n (nI α)))), (ad 3, .inl (cI, 12, .inl (upd aB n (nI β)))), (ad 4, .inl (cI, 12, .inl (upd aC n (nI γ)))), (ad 5, .inl (cI, 12, .inl (upd aP n (pp_new aP n κ α β γ)))), (ad 6, .inl (cI, 2, .inl (pc_nv (upd aP n (pp_new aP n κ α β γ)) aV n κ α 2))), (ad 7, .inl (cI, 12, .inl aN)), (sd 0, .inr (0, [.ref (sd 1), .ref (sd 2), .int (nI mm), .int (nI lv)])), (sd 1, .inl (cI, 20, .inl aM)), (sd 2, .inl (cI, 6, .inl aS)), (oa, .inl (cJ, 1, .inr (.inl g0)))]) [1, 2, 3, 4, 5, 6, 7, 8, 9, 10, 11, 12, 13, 0] (by decide) rfl
  generalize H1 = H at hP hS ⊢
  subst er1
  refine lv_i2l (v := (nI n).toInt64) hx hb dL_term_12 rfl ?_
  refine va_last (i := 0) hx hb hK hP hD hS 13 1 rfl rfl xo_in dL_term_13 (fun H locs hP hD hS => ?_)
  have hP : va_P (dC, dI) vwCl [(hf 0, .inr (2, [.ref (ad 0), .ref (sd 0), .ref (hf 1), .int ms, .int ck])), (hf 1, .inl (cI, 2, .inl aF)), (ad 0, .inr (1, [.ref (ad 1), .ref (ad 2), .ref (ad 3), .ref (ad 4), .ref (ad 5), .ref (ad 6), .ref (ad 7), .int (nI (n + 1))])), (ad 1, .inl (cI, 12, .inl (upd aK n (nI κ)))), (ad 2, .inl (cI, 12, .inl (upd aA n (nI α)))), (ad 3, .inl (cI, 12, .inl (upd aB n (nI β)))), (ad 4, .inl (cI, 12, .inl (upd aC n (nI γ)))), (ad 5, .inl (cI, 12, .inl (upd aP n (pp_new aP n κ α β γ)))), (ad 6, .inl (cI, 2, .inl (pc_nv (upd aP n (pp_new aP n κ α β γ)) aV n κ α 2))), (ad 7, .inl (cI, 12, .inl aN)), (sd 0, .inr (0, [.ref (sd 1), .ref (sd 2), .int (nI mm), .int (nI lv)])), (sd 1, .inl (cI, 20, .inl aM)), (sd 2, .inl (cI, 6, .inl aS)), (oa, .inl (cJ, 1, .inr (.inl (vp_updL g0 0 ((nI n).toInt64)))))] H := hP
  have hD : va_D A9 [(hf 0, .inr (2, [.ref (ad 0), .ref (sd 0), .ref (hf 1), .int ms, .int ck])), (hf 1, .inl (cI, 2, .inl aF)), (ad 0, .inr (1, [.ref (ad 1), .ref (ad 2), .ref (ad 3), .ref (ad 4), .ref (ad 5), .ref (ad 6), .ref (ad 7), .int (nI (n + 1))])), (ad 1, .inl (cI, 12, .inl (upd aK n (nI κ)))), (ad 2, .inl (cI, 12, .inl (upd aA n (nI α)))), (ad 3, .inl (cI, 12, .inl (upd aB n (nI β)))), (ad 4, .inl (cI, 12, .inl (upd aC n (nI γ)))), (ad 5, .inl (cI, 12, .inl (upd aP n (pp_new aP n κ α β γ)))), (ad 6, .inl (cI, 2, .inl (pc_nv (upd aP n (pp_new aP n κ α β γ)) aV n κ α 2))), (ad 7, .inl (cI, 12, .inl aN)), (sd 0, .inr (0, [.ref (sd 1), .ref (sd 2), .int (nI mm), .int (nI lv)])), (sd 1, .inl (cI, 20, .inl aM)), (sd 2, .inl (cI, 6, .inl aS)), (oa, .inl (cJ, 1, .inr (.inl (vp_updL g0 0 ((nI n).toInt64)))))] := hD
  refine lv_goto (tgt := 25) hx hb dL_term_14 (by decide) ?_
  refine lv_iconst (v := 0) hx hb dL_term_25 (by decide) ?_
  exact W.iret (v := 0) hx hb hr (fun t9 ht9 hW9 => ⟨⟨0, (), rfl, rfl, by rw [ht9]; exact hP, va_K.moved hW9.alike hK, hD⟩, hS.F ht9⟩) hS.2.2 dL_term_26
set_option maxHeartbeats 4000000 in
set_option maxRecDepth 100000 in
theorem ctL_claim0 (hl9 : l.stackTraces = false) (sa : Nat → Nat) (sz : Nat) (hn : n ≤ 12) (hm : mm ≤ 20) (fk : Nat → Nat) (hk : ∀ t, t < n → aK t = nI (fk t)) (hk2 : ∀ t, t < n → fk t < 20) (x : Int32) (hno : ¬ ∃ j, j < n ∧ x = nI j ∧ 10 ≤ fk j) : Met l yL_claim wsL_claim ({ frames := 7, cells := 1, slots := 6, locals := 121 }) (va_Pc [.ref (hf 0), .int x, .ref oa] (fun U => U.heap.size = sz ∧ va_P (dC, dI) vwCl (wF cI hf ad sd aF ms ck aK aA aB aC aP aV aN n aM aS mm lv ++ [(oa, .inl (cJ, 1, .inr (.inl g0)))]) U.heap ∧ va_K (dC, dI) vwCl [(cI, .int), (cJ, .long)] U ∧ va_D (fun _ => True) (wF cI hf ad sd aF ms ck aK aA aB aC aP aV aN n aM aS mm lv ++ [(oa, .inl (cJ, 1, .inr (.inl g0)))]) ∧ tx_E (va_A (wF cI hf ad sd aF ms ck aK aA aB aC aP aV aN n aM aS mm lv ++ [(oa, .inl (cJ, 1, .inr (.inl g0)))]) sz) sa U U.heap)) (va_Qi (fun r _ => r = 1) (fun (u : Unit) t9 => va_P (dC, dI) vwCl (wF cI hf ad sd aF ms ck aK aA aB aC aP aV aN n aM aS mm lv ++ [(oa, .inl (cJ, 1, .inr (.inl g0)))]) t9.heap ∧ va_K (dC, dI) vwCl [(cI, .int), (cJ, .long)] t9 ∧ va_D (va_A (wF cI hf ad sd aF ms ck aK aA aB aC aP aV aN n aM aS mm lv ++ [(oa, .inl (cJ, 1, .inr (.inl g0)))]) sz) (wF cI hf ad sd aF ms ck aK aA aB aC aP aV aN n aM aS mm lv ++ [(oa, .inl (cJ, 1, .inr (.inl g0)))])) (va_A (wF cI hf ad sd aF ms ck aK aA aB aC aP aV aN n aM aS mm lv ++ [(oa, .inl (cJ, 1, .inr (.inl g0)))]) sz)) 1 6 (va_A (wF cI hf ad sd aF ms ck aK aA aB aC aP aV aN n aM aS mm lv ++ [(oa, .inl (cJ, 1, .inr (.inl g0)))]) sz) := by
  refine va_MetW (cc := cL_claim) (maxL := 4) (ret := (some .int)) (by decide) rfl ?_
  intro p e s m args below meth c s₁ B hml hv
  obtain ⟨rfl, hsz, hP, hK, hD0, hE⟩ := hv
  subst hsz
  have hx := B.exec
  have hb := B.bytes
  have hr := B.returns
  have hts := atoms_spec (ws := wsL_claim) B.pre
  have hown : s.vm.findClass RL = some m.cls := findClass_of_methodNamed B.named
  have hlocks := B.notSynchronized
  have hl := lv_entry ([.ref (hf 0), .int x, .ref oa]) (n := 4) (Nat.le_of_ble_eq_true rfl)
  rw [lg_entry_eq]
  generalize (lg_sl ([.ref (hf 0), .int x, .ref oa]) ++ List.replicate (4 - (lg_sl ([.ref (hf 0), .int x, .ref oa])).length) Slot.unset).toArray = ls at hl ⊢
  have hl : lv_has ls 4 [(0, .ref (hf 0)), (1, .int x), (2, .ref oa)] := hl
  have htab := vx_table (x := yL_claim) B (hts _ List.mem_cons_self)
  have hKc := hK.sub (tys' := [(cI, .int)]) [0] rfl
  have hD := hD0.self (sz := s.heap.size)
  generalize hAe : va_A (wF cI hf ad sd aF ms ck aK aA aB aC aP aV aN n aM aS mm lv ++ [(oa, .inl (cJ, 1, .inr (.inl g0)))]) s.heap.size = A9 at hD hE ⊢
  have hA : ∀ q : Nat, s.heap.size ≤ q → A9 q := fun q h => by rw [← hAe]; exact Or.inr h
  have hS : va_S A9 s.heap s.heap [] := va_S.rf
  refine lv_aload_n hx hb dL_claim_0 rfl (lv_at hl 2 rfl) ?_
  refine lv_iconst (v := 0) hx hb dL_claim_1 (by decide) ?_
  refine lv_aload_n hx hb dL_claim_2 rfl (lv_at hl 0 rfl) ?_
  refine lv_iload_n hx hb dL_claim_3 rfl (lv_at hl 1 rfl) ?_
  have hPc := hP.sub (ws' := (wF cI hf ad sd aF ms ck aK aA aB aC aP aV aN n aM aS mm lv)) [0, 1, 2, 3, 4, 5, 6, 7, 8, 9, 10, 11, 12] rfl
  have hDc := hD.sub (ws' := (wF cI hf ad sd aF ms ck aK aA aB aC aP aV aN n aM aS mm lv)) [0, 1, 2, 3, 4, 5, 6, 7, 8, 9, 10, 11, 12] (by decide) rfl
  have hFc := va_free (wc := (wF cI hf ad sd aF ms ck aK aA aB aC aP aV aN n aM aS mm lv)) hD hS hA [0, 1, 2, 3, 4, 5, 6, 7, 8, 9, 10, 11, 12] rfl
  refine vx_calli (vx_runV (C := RX4) (b := hf 0) (As := [.int x]) (rest := [.int 0, .ref oa]) ⟨hx, hb, hml, hown, hts⟩ (ctX4_claim0 l dC dI cI hf ad sd aF ms ck aK aA aB aC aP aV aN n aM aS mm lv hl9 sa s.heap.size hn hm fk hk hk2 x hno) (cwV 1 hts (wA_wsV wm_ml_L_17 wm_im_X4_claim wm_se_X4_claim wm_in_X4 wm_cd_X4_claim) rfl rfl rfl (by decide +kernel) ⟨Nat.le_of_ble_eq_true rfl, Nat.le_of_ble_eq_true rfl⟩) ⟨fun a U g mk q => by obtain ⟨q0, q1, qP, qK, qD, qE⟩ := q; exact ⟨q0, q1, qP, va_K.moved (u := U) (U := U.calling g mk a) (Vm.Alike.refl U.vm) qK, qD, tx_E.same (s := U) (U := U.calling g mk a) rfl qE⟩, va_recv (q := (RX4, TX4, 5)) (q0 := 0) hK hP rfl rfl, fun U hU hW => ⟨rfl, by rw [hU], by rw [hU]; exact hPc, va_K.moved hW.alike hKc, hDc.weaken (fun _ _ _ _ => trivial), by rw [hU]; exact (hE.narrow hFc).warm hW⟩⟩ rfl rfl hl.1 rfl (lv_room (Nat.le_of_ble_eq_true rfl)) dL_claim_4 ⟨Nat.le_of_ble_eq_true rfl, Nat.le_of_ble_eq_true rfl⟩) hS (fun q _ h => hFc q h) hFc (fun q _ h => hFc q h) (fun E ce q9 u t8 H1 locs ht8 hvm8 hpx hBX hz1 hk1 hS hq9 hce hcl => ?_) (fun r u t8 H1 locs _ _ hF => hF.elim)
  obtain ⟨rfl, hP1⟩ := hBX
  rw [ht8] at hP1
  have hD1 := hDc.self (sz := s.heap.size)
  obtain ⟨hP, hD⟩ := va_join (wr := [(oa, .inl (cJ, 1, .inr (.inl g0)))]) (w1 := [(hf 0, .inr (2, [.ref (ad 0), .ref (sd 0), .ref (hf 1), .int ms, .int ck])), (hf 1, .inl (cI, 2, .inl aF)), (ad 0, .inr (1, [.ref (ad 1), .ref (ad 2), .ref (ad 3), .ref (ad 4), .ref (ad 5), .ref (ad 6), .ref (ad 7), .int (nI n)])), (ad 1, .inl (cI, 12, .inl aK)), (ad 2, .inl (cI, 12, .inl aA)), (ad 3, .inl (cI, 12, .inl aB)), (ad 4, .inl (cI, 12, .inl aC)), (ad 5, .inl (cI, 12, .inl aP)), (ad 6, .inl (cI, 2, .inl aV)), (ad 7, .inl (cI, 12, .inl aN)), (sd 0, .inr (0, [.ref (sd 1), .ref (sd 2), .int (nI mm), .int (nI lv)])), (sd 1, .inl (cI, 20, .inl aM)), (sd 2, .inl (cI, 6, .inl aS))]) hP hD [0, 1, 2, 3, 4, 5, 6, 7, 8, 9, 10, 11, 12] [13] rfl rfl (by decide) (by decide) hk1 hFc hP1 hD1
  have hP := hP.sub (ws' := [(hf 0, .inr (2, [.ref (ad 0), .ref (sd 0), .ref (hf 1), .int ms, .int ck])), (hf 1, .inl (cI, 2, .inl aF)), (ad 0, .inr (1, [.ref (ad 1), .ref (ad 2), .ref (ad 3), .ref (ad 4), .ref (ad 5), .ref (ad 6), .ref (ad 7), .int (nI n)])), (ad 1, .inl (cI, 12, .inl aK)), (ad 2, .inl (cI, 12, .inl aA)), (ad 3, .inl (cI, 12, .inl aB)), (ad 4, .inl (cI, 12, .inl aC)), (ad 5, .inl (cI, 12, .inl aP)), (ad 6, .inl (cI, 2, .inl aV)), (ad 7, .inl (cI, 12, .inl aN)), (sd 0, .inr (0, [.ref (sd 1), .ref (sd 2), .int (nI mm), .int (nI lv)])), (sd 1, .inl (cI, 20, .inl aM)), (sd 2, .inl (cI, 6, .inl aS)), (oa, .inl (cJ, 1, .inr (.inl g0)))]) [1, 2, 3, 4, 5, 6, 7, 8, 9, 10, 11, 12, 13, 0] rfl
  have hD := hD.sub (ws' := [(hf 0, .inr (2, [.ref (ad 0), .ref (sd 0), .ref (hf 1), .int ms, .int ck])), (hf 1, .inl (cI, 2, .inl aF)), (ad 0, .inr (1, [.ref (ad 1), .ref (ad 2), .ref (ad 3), .ref (ad 4), .ref (ad 5), .ref (ad 6), .ref (ad 7), .int (nI n)])), (ad 1, .inl (cI, 12, .inl aK)), (ad 2, .inl (cI, 12, .inl aA)), (ad 3, .inl (cI, 12, .inl aB)), (ad 4, .inl (cI, 12, .inl aC)), (ad 5, .inl (cI, 12, .inl aP)), (ad 6, .inl (cI, 2, .inl aV)), (ad 7, .inl (cI, 12, .inl aN)), (sd 0, .inr (0, [.ref (sd 1), .ref (sd 2), .int (nI mm), .int (nI lv)])), (sd 1, .inl (cI, 20, .inl aM)), (sd 2, .inl (cI, 6, .inl aS)), (oa, .inl (cJ, 1, .inr (.inl g0)))]) [1, 2, 3, 4, 5, 6, 7, 8, 9, 10, 11, 12, 13, 0] (by decide) rfl
  refine vx_catch (own := RL) (name := "java/lang/IllegalArgumentException") hown [] ⟨0, 9, 12, 13⟩ [⟨0, 9, 15, 15⟩] (by rw [htab]; rfl) (fun z hz => nomatch hz) (by decide) (by decide) (hts _ (List.mem_cons_of_mem _ wm_cl_L_13)) (va_Nw.use rfl hE.2.1.1) hq9 hce hcl ?_
  refine lv_astore_n (lv' := [(3, .ref q9), (0, .ref (hf 0)), (1, .int x), (2, .ref oa)]) hx hb dL_claim_12 rfl hl (by decide) rfl (fun ls hl => ?_)
  refine lv_iconst (v := 1) hx hb dL_claim_13 (by decide) ?_
  exact W.iret (v := 1) hx hb hr (fun t9 ht9 hW9 => ⟨⟨1, (), rfl, rfl, by rw [ht9]; exact hP, va_K.moved hW9.alike hK, hD⟩, hS.F ht9⟩) hS.2.2 dL_claim_14
set_option maxHeartbeats 4000000 in
set_option maxRecDepth 100000 in
theorem ctL_claim1 (hl9 : l.stackTraces = false) (sa : Nat → Nat) (sz : Nat) (hn : n ≤ 12) (hm : mm ≤ 20) (fk : Nat → Nat) (hk : ∀ t, t < n → aK t = nI (fk t)) (hk2 : ∀ t, t < n → fk t < 20) (x : Int32) (hok : ∃ j, j < n ∧ x = nI j ∧ 10 ≤ fk j) (hm20 : mm = 20) : Met l yL_claim wsL_claim ({ frames := 7, cells := 1, slots := 6, locals := 121 }) (va_Pc [.ref (hf 0), .int x, .ref oa] (fun U => U.heap.size = sz ∧ va_P (dC, dI) vwCl (wF cI hf ad sd aF ms ck aK aA aB aC aP aV aN n aM aS mm lv ++ [(oa, .inl (cJ, 1, .inr (.inl g0)))]) U.heap ∧ va_K (dC, dI) vwCl [(cI, .int), (cJ, .long)] U ∧ va_D (fun _ => True) (wF cI hf ad sd aF ms ck aK aA aB aC aP aV aN n aM aS mm lv ++ [(oa, .inl (cJ, 1, .inr (.inl g0)))]) ∧ tx_E (va_A (wF cI hf ad sd aF ms ck aK aA aB aC aP aV aN n aM aS mm lv ++ [(oa, .inl (cJ, 1, .inr (.inl g0)))]) sz) sa U U.heap)) (va_Qi (fun r _ => r = 2) (fun (u : Unit) t9 => va_P (dC, dI) vwCl (wF cI hf ad sd aF ms ck aK aA aB aC aP aV aN n aM aS mm lv ++ [(oa, .inl (cJ, 1, .inr (.inl g0)))]) t9.heap ∧ va_K (dC, dI) vwCl [(cI, .int), (cJ, .long)] t9 ∧ va_D (va_A (wF cI hf ad sd aF ms ck aK aA aB aC aP aV aN n aM aS mm lv ++ [(oa, .inl (cJ, 1, .inr (.inl g0)))]) sz) (wF cI hf ad sd aF ms ck aK aA aB aC aP aV aN n aM aS mm lv ++ [(oa, .inl (cJ, 1, .inr (.inl g0)))])) (va_A (wF cI hf ad sd aF ms ck aK aA aB aC aP aV aN n aM aS mm lv ++ [(oa, .inl (cJ, 1, .inr (.inl g0)))]) sz)) 1 6 (va_A (wF cI hf ad sd aF ms ck aK aA aB aC aP aV aN n aM aS mm lv ++ [(oa, .inl (cJ, 1, .inr (.inl g0)))]) sz) := by
  refine va_MetW (cc := cL_claim) (maxL := 4) (ret := (some .int)) (by decide) rfl ?_
  intro p e s m args below meth c s₁ B hml hv
  obtain ⟨rfl, hsz, hP, hK, hD0, hE⟩ := hv
  subst hsz
  have hx := B.exec
  have hb := B.bytes
  have hr := B.returns
  have hts := atoms_spec (ws := wsL_claim) B.pre
  have hown : s.vm.findClass RL = some m.cls := findClass_of_methodNamed B.named
  have hlocks := B.notSynchronized
  have hl := lv_entry ([.ref (hf 0), .int x, .ref oa]) (n := 4) (Nat.le_of_ble_eq_true rfl)
  rw [lg_entry_eq]
  generalize (lg_sl ([.ref (hf 0), .int x, .ref oa]) ++ List.replicate (4 - (lg_sl ([.ref (hf 0), .int x, .ref oa])).length) Slot.unset).toArray = ls at hl ⊢
  have hl : lv_has ls 4 [(0, .ref (hf 0)), (1, .int x), (2, .ref oa)] := hl
  have htab := vx_table (x := yL_claim) B (hts _ List.mem_cons_self)
  have hKc := hK.sub (tys' := [(cI, .int)]) [0] rfl
  have hD := hD0.self (sz := s.heap.size)
  generalize hAe : va_A (wF cI hf ad sd aF ms ck aK aA aB aC aP aV aN n aM aS mm lv ++ [(oa, .inl (cJ, 1, .inr (.inl g0)))]) s.heap.size = A9 at hD hE ⊢
  have hA : ∀ q : Nat, s.heap.size ≤ q → A9 q := fun q h => by rw [← hAe]; exact Or.inr h
  have hS : va_S A9 s.heap s.heap [] := va_S.rf
  refine lv_aload_n hx hb dL_claim_0 rfl (lv_at hl 2 rfl) ?_
  refine lv_iconst (v := 0) hx hb dL_claim_1 (by decide) ?_
  refine lv_aload_n hx hb dL_claim_2 rfl (lv_at hl 0 rfl) ?_
  refine lv_iload_n hx hb dL_claim_3 rfl (lv_at hl 1 rfl) ?_
  have hPc := hP.sub (ws' := (wF cI hf ad sd aF ms ck aK aA aB aC aP aV aN n aM aS mm lv)) [0, 1, 2, 3, 4, 5, 6, 7, 8, 9, 10, 11, 12] rfl
  have hDc := hD.sub (ws' := (wF cI hf ad sd aF ms ck aK aA aB aC aP aV aN n aM aS mm lv)) [0, 1, 2, 3, 4, 5, 6, 7, 8, 9, 10, 11, 12] (by decide) rfl
  have hFc := va_free (wc := (wF cI hf ad sd aF ms ck aK aA aB aC aP aV aN n aM aS mm lv)) hD hS hA [0, 1, 2, 3, 4, 5, 6, 7, 8, 9, 10, 11, 12] rfl
  refine vx_calli (vx_runV (C := RX4) (b := hf 0) (As := [.int x]) (rest := [.int 0, .ref oa]) ⟨hx, hb, hml, hown, hts⟩ (ctX4_claim1 l dC dI cI hf ad sd aF ms ck aK aA aB aC aP aV aN n aM aS mm lv hl9 sa s.heap.size hn hm fk hk hk2 x hok hm20) (cwV 1 hts (wA_wsV wm_ml_L_17 wm_im_X4_claim wm_se_X4_claim wm_in_X4 wm_cd_X4_claim) rfl rfl rfl (by decide +kernel) ⟨Nat.le_of_ble_eq_true rfl, Nat.le_of_ble_eq_true rfl⟩) ⟨fun a U g mk q => by obtain ⟨q0, q1, qP, qK, qD, qE⟩ := q; exact ⟨q0, q1, qP, va_K.moved (u := U) (U := U.calling g mk a) (Vm.Alike.refl U.vm) qK, qD, tx_E.same (s := U) (U := U.calling g mk a) rfl qE⟩, va_recv (q := (RX4, TX4, 5)) (q0 := 0) hK hP rfl rfl, fun U hU hW => ⟨rfl, by rw [hU], by rw [hU]; exact hPc, va_K.moved hW.alike hKc, hDc.weaken (fun _ _ _ _ => trivial), by rw [hU]; exact (hE.narrow hFc).warm hW⟩⟩ rfl rfl hl.1 rfl (lv_room (Nat.le_of_ble_eq_true rfl)) dL_claim_4 ⟨Nat.le_of_ble_eq_true rfl, Nat.le_of_ble_eq_true rfl⟩) hS (fun q _ h => hFc q h) hFc (fun q _ h => hFc q h) (fun E ce q9 u t8 H1 locs ht8 hvm8 hpx hBX hz1 hk1 hS hq9 hce hcl => ?_) (fun r u t8 H1 locs _ _ hF => hF.elim)
  obtain ⟨rfl, hP1⟩ := hBX
  rw [ht8] at hP1
  have hD1 := hDc.self (sz := s.heap.size)
  obtain ⟨hP, hD⟩ := va_join (wr := [(oa, .inl (cJ, 1, .inr (.inl g0)))]) (w1 := [(hf 0, .inr (2, [.ref (ad 0), .ref (sd 0), .ref (hf 1), .int ms, .int ck])), (hf 1, .inl (cI, 2, .inl aF)), (ad 0, .inr (1, [.ref (ad 1), .ref (ad 2), .ref (ad 3), .ref (ad 4), .ref (ad 5), .ref (ad 6), .ref (ad 7), .int (nI n)])), (ad 1, .inl (cI, 12, .inl aK)), (ad 2, .inl (cI, 12, .inl aA)), (ad 3, .inl (cI, 12, .inl aB)), (ad 4, .inl (cI, 12, .inl aC)), (ad 5, .inl (cI, 12, .inl aP)), (ad 6, .inl (cI, 2, .inl aV)), (ad 7, .inl (cI, 12, .inl aN)), (sd 0, .inr (0, [.ref (sd 1), .ref (sd 2), .int (nI mm), .int (nI lv)])), (sd 1, .inl (cI, 20, .inl aM)), (sd 2, .inl (cI, 6, .inl aS))]) hP hD [0, 1, 2, 3, 4, 5, 6, 7, 8, 9, 10, 11, 12] [13] rfl rfl (by decide) (by decide) hk1 hFc hP1 hD1
  have hP := hP.sub (ws' := [(hf 0, .inr (2, [.ref (ad 0), .ref (sd 0), .ref (hf 1), .int ms, .int ck])), (hf 1, .inl (cI, 2, .inl aF)), (ad 0, .inr (1, [.ref (ad 1), .ref (ad 2), .ref (ad 3), .ref (ad 4), .ref (ad 5), .ref (ad 6), .ref (ad 7), .int (nI n)])), (ad 1, .inl (cI, 12, .inl aK)), (ad 2, .inl (cI, 12, .inl aA)), (ad 3, .inl (cI, 12, .inl aB)), (ad 4, .inl (cI, 12, .inl aC)), (ad 5, .inl (cI, 12, .inl aP)), (ad 6, .inl (cI, 2, .inl aV)), (ad 7, .inl (cI, 12, .inl aN)), (sd 0, .inr (0, [.ref (sd 1), .ref (sd 2), .int (nI mm), .int (nI lv)])), (sd 1, .inl (cI, 20, .inl aM)), (sd 2, .inl (cI, 6, .inl aS)), (oa, .inl (cJ, 1, .inr (.inl g0)))]) [1, 2, 3, 4, 5, 6, 7, 8, 9, 10, 11, 12, 13, 0] rfl
  have hD := hD.sub (ws' := [(hf 0, .inr (2, [.ref (ad 0), .ref (sd 0), .ref (hf 1), .int ms, .int ck])), (hf 1, .inl (cI, 2, .inl aF)), (ad 0, .inr (1, [.ref (ad 1), .ref (ad 2), .ref (ad 3), .ref (ad 4), .ref (ad 5), .ref (ad 6), .ref (ad 7), .int (nI n)])), (ad 1, .inl (cI, 12, .inl aK)), (ad 2, .inl (cI, 12, .inl aA)), (ad 3, .inl (cI, 12, .inl aB)), (ad 4, .inl (cI, 12, .inl aC)), (ad 5, .inl (cI, 12, .inl aP)), (ad 6, .inl (cI, 2, .inl aV)), (ad 7, .inl (cI, 12, .inl aN)), (sd 0, .inr (0, [.ref (sd 1), .ref (sd 2), .int (nI mm), .int (nI lv)])), (sd 1, .inl (cI, 20, .inl aM)), (sd 2, .inl (cI, 6, .inl aS)), (oa, .inl (cJ, 1, .inr (.inl g0)))]) [1, 2, 3, 4, 5, 6, 7, 8, 9, 10, 11, 12, 13, 0] (by decide) rfl
  refine vx_catch (own := RL) (name := "java/lang/IllegalStateException") hown [⟨0, 9, 12, 13⟩] ⟨0, 9, 15, 15⟩ [] (by rw [htab]; rfl) (fun z hz => by rcases List.mem_singleton.mp hz with rfl; exact Or.inr ⟨by decide, "java/lang/IllegalArgumentException", hts _ (List.mem_cons_of_mem _ wm_cl_L_13), hE.2.2.1.1⟩) (by decide) (by decide) (hts _ (List.mem_cons_of_mem _ wm_cl_L_15)) (va_Nw.use rfl hE.2.1.2.1) hq9 hce hcl ?_
  refine lv_astore_n (lv' := [(3, .ref q9), (0, .ref (hf 0)), (1, .int x), (2, .ref oa)]) hx hb dL_claim_15 rfl hl (by decide) rfl (fun ls hl => ?_)
  refine lv_iconst (v := 2) hx hb dL_claim_16 (by decide) ?_
  exact W.iret (v := 2) hx hb hr (fun t9 ht9 hW9 => ⟨⟨2, (), rfl, rfl, by rw [ht9]; exact hP, va_K.moved hW9.alike hK, hD⟩, hS.F ht9⟩) hS.2.2 dL_claim_17
set_option maxHeartbeats 4000000 in
set_option maxRecDepth 100000 in
theorem ctL_claim2 (sz : Nat) (hn : n ≤ 12) (hm : mm ≤ 20) (fk : Nat → Nat) (hk : ∀ t, t < n → aK t = nI (fk t)) (hk2 : ∀ t, t < n → fk t < 20) (x : Int32) (hok : ∃ j, j < n ∧ x = nI j ∧ 10 ≤ fk j) (hm20 : mm < 20) : Met l yL_claim wsL_claim ({ frames := 7, cells := 0, slots := 0, locals := 121 }) (va_Pc [.ref (hf 0), .int x, .ref oa] (fun U => U.heap.size = sz ∧ va_P (dC, dI) vwCl (wF cI hf ad sd aF ms ck aK aA aB aC aP aV aN n aM aS mm lv ++ [(oa, .inl (cJ, 1, .inr (.inl g0)))]) U.heap ∧ va_K (dC, dI) vwCl [(cI, .int), (cJ, .long)] U ∧ va_D (fun _ => True) (wF cI hf ad sd aF ms ck aK aA aB aC aP aV aN n aM aS mm lv ++ [(oa, .inl (cJ, 1, .inr (.inl g0)))]))) (va_Qi (fun r _ => r = 0) (fun (u : Unit) t9 => va_P (dC, dI) vwCl (wF cI hf ad sd aF ms ck aK aA aB aC aP aV aN n (upd aM mm x) aS (mm + 1) lv ++ [(oa, .inl (cJ, 1, .inr (.inl (vp_updL g0 0 (nI (mm + 1)).toInt64))))]) t9.heap ∧ va_K (dC, dI) vwCl [(cI, .int), (cJ, .long)] t9 ∧ va_D (va_A (wF cI hf ad sd aF ms ck aK aA aB aC aP aV aN n aM aS mm lv ++ [(oa, .inl (cJ, 1, .inr (.inl g0)))]) sz) (wF cI hf ad sd aF ms ck aK aA aB aC aP aV aN n (upd aM mm x) aS (mm + 1) lv ++ [(oa, .inl (cJ, 1, .inr (.inl (vp_updL g0 0 (nI (mm + 1)).toInt64))))])) (va_A (wF cI hf ad sd aF ms ck aK aA aB aC aP aV aN n aM aS mm lv ++ [(oa, .inl (cJ, 1, .inr (.inl g0)))]) sz)) 0 0 (va_A (wF cI hf ad sd aF ms ck aK aA aB aC aP aV aN n aM aS mm lv ++ [(oa, .inl (cJ, 1, .inr (.inl g0)))]) sz) := by
  refine va_MetW (cc := cL_claim) (maxL := 4) (ret := (some .int)) (by decide) rfl ?_
  intro p e s m args below meth c s₁ B hml hv
  obtain ⟨rfl, hsz, hP, hK, hD0⟩ := hv
  subst hsz
  have hx := B.exec
  have hb := B.bytes
  have hr := B.returns
  have hts := atoms_spec (ws := wsL_claim) B.pre
  have hown : s.vm.findClass RL = some m.cls := findClass_of_methodNamed B.named
  have hlocks := B.notSynchronized
  have hl := lv_entry ([.ref (hf 0), .int x, .ref oa]) (n := 4) (Nat.le_of_ble_eq_true rfl)
  rw [lg_entry_eq]
  generalize (lg_sl ([.ref (hf 0), .int x, .ref oa]) ++ List.replicate (4 - (lg_sl ([.ref (hf 0), .int x, .ref oa])).length) Slot.unset).toArray = ls at hl ⊢
  have hl : lv_has ls 4 [(0, .ref (hf 0)), (1, .int x), (2, .ref oa)] := hl
  have hKc := hK.sub (tys' := [(cI, .int)]) [0] rfl
  have hD := hD0.self (sz := s.heap.size)
  generalize hAe : va_A (wF cI hf ad sd aF ms ck aK aA aB aC aP aV aN n aM aS mm lv ++ [(oa, .inl (cJ, 1, .inr (.inl g0)))]) s.heap.size = A9 at hD ⊢
  have hA : ∀ q : Nat, s.heap.size ≤ q → A9 q := fun q h => by rw [← hAe]; exact Or.inr h
  have hS : va_S A9 s.heap s.heap [] := va_S.rf
  refine lv_aload_n hx hb dL_claim_0 rfl (lv_at hl 2 rfl) ?_
  refine lv_iconst (v := 0) hx hb dL_claim_1 (by decide) ?_
  refine lv_aload_n hx hb dL_claim_2 rfl (lv_at hl 0 rfl) ?_
  refine lv_iload_n hx hb dL_claim_3 rfl (lv_at hl 1 rfl) ?_
  have hPc := hP.sub (ws' := (wF cI hf ad sd aF ms ck aK aA aB aC aP aV aN n aM aS mm lv)) [0, 1, 2, 3, 4, 5, 6, 7, 8, 9, 10, 11, 12] rfl
  have hDc := hD.sub (ws' := (wF cI hf ad sd aF ms ck aK aA aB aC aP aV aN n aM aS mm lv)) [0, 1, 2, 3, 4, 5, 6, 7, 8, 9, 10, 11, 12] (by decide) rfl
  have hFc := va_free (wc := (wF cI hf ad sd aF ms ck aK aA aB aC aP aV aN n aM aS mm lv)) hD hS hA [0, 1, 2, 3, 4, 5, 6, 7, 8, 9, 10, 11, 12] rfl
  refine va_calli (va_runV (C := RX4) (b := hf 0) (As := [.int x]) (rest := [.int 0, .ref oa]) ⟨hx, hb, hml, hown, hts⟩ (ctX4_claim2 l dC dI cI hf ad sd aF ms ck aK aA aB aC aP aV aN n aM aS mm lv s.heap.size hn hm fk hk hk2 x hok hm20) (cwV 1 hts (wA_wsV wm_ml_L_17 wm_im_X4_claim wm_se_X4_claim wm_in_X4 wm_cd_X4_claim) rfl rfl rfl (by decide +kernel) ⟨Nat.le_of_ble_eq_true rfl, Nat.le_of_ble_eq_true rfl⟩) ⟨fun a U g mk q => by obtain ⟨q0, q1, qP, qK, qD⟩ := q; exact ⟨q0, q1, qP, va_K.moved (u := U) (U := U.calling g mk a) (Vm.Alike.refl U.vm) qK, qD⟩, va_recv (q := (RX4, TX4, 5)) (q0 := 0) hK hP rfl rfl, fun U hU hW => ⟨rfl, by rw [hU], by rw [hU]; exact hPc, va_K.moved hW.alike hKc, hDc.weaken (fun _ _ _ _ => trivial)⟩⟩ rfl rfl hl.1 rfl (lv_room (Nat.le_of_ble_eq_true rfl)) dL_claim_4 ⟨Nat.zero_le _, Nat.zero_le _⟩) hS (fun q _ h => hFc q h) hFc (fun r1 u t8 H1 locs ht8 hvm8 er1 hB hz1 hk1 hS => ?_)
  obtain ⟨hP1, hK1, hD1⟩ := hB
  rw [ht8] at hP1
  obtain ⟨hP, hD⟩ := va_join (wr := [(oa, .inl (cJ, 1, .inr (.inl g0)))]) (w1 := [(hf 0, .inr (2, [.ref (ad 0), .ref (sd 0), .ref (hf 1), .int ms, .int ck])), (hf 1, .inl (cI, 2, .inl aF)), (ad 0, .inr (1, [.ref (ad 1), .ref (ad 2), .ref (ad 3), .ref (ad 4), .ref (ad 5), .ref (ad 6), .ref (ad 7), .int (nI n)])), (ad 1, .inl (cI, 12, .inl aK)), (ad 2, .inl (cI, 12, .inl aA)), (ad 3, .inl (cI, 12, .inl aB)), (ad 4, .inl (cI, 12, .inl aC)), (ad 5, .inl (cI, 12, .inl aP)), (ad 6, .inl (cI, 2, .inl aV)), (ad 7, .inl (cI, 12, .inl aN)), (sd 0, .inr (0, [.ref (sd 1), .ref (sd 2), .int (nI (mm + 1)), .int (nI lv)])), (sd 1, .inl (cI, 20, .inl (upd aM mm x))), (sd 2, .inl (cI, 6, .inl aS))]) hP hD [0, 1, 2, 3, 4, 5, 6, 7, 8, 9, 10, 11, 12] [13] rfl rfl (by decide) (by decide) hk1 hFc hP1 hD1
  have hP := hP.sub (ws' := [(hf 0, .inr (2, [.ref (ad 0), .ref (sd 0), .ref (hf 1), .int ms, .int ck])), (hf 1, .inl (cI, 2, .inl aF)), (ad 0, .inr (1, [.ref (ad 1), .ref (ad 2), .ref (ad 3), .ref (ad 4), .ref (ad 5), .ref (ad 6), .ref (ad 7), .int (nI n)])), (ad 1, .inl (cI, 12, .inl aK)), (ad 2, .inl (cI, 12, .inl aA)), (ad 3, .inl (cI, 12, .inl aB)), (ad 4, .inl (cI, 12, .inl aC)), (ad 5, .inl (cI, 12, .inl aP)), (ad 6, .inl (cI, 2, .inl aV)), (ad 7, .inl (cI, 12, .inl aN)), (sd 0, .inr (0, [.ref (sd 1), .ref (sd 2), .int (nI (mm + 1)), .int (nI lv)])), (sd 1, .inl (cI, 20, .inl (upd aM mm x))), (sd 2, .inl (cI, 6, .inl aS)), (oa, .inl (cJ, 1, .inr (.inl g0)))]) [1, 2, 3, 4, 5, 6, 7, 8, 9, 10, 11, 12, 13, 0] rfl
  have hD := hD.sub (ws' := [(hf 0, .inr (2, [.ref (ad 0), .ref (sd 0), .ref (hf 1), .int ms, .int ck])), (hf 1, .inl (cI, 2, .inl aF)), (ad 0, .inr (1, [.ref (ad 1), .ref (ad 2), .ref (ad 3), .ref (ad 4), .ref (ad 5), .ref (ad 6), .ref (ad 7), .int (nI n)])), (ad 1, .inl (cI, 12, .inl aK)), (ad 2, .inl (cI, 12, .inl aA)), (ad 3, .inl (cI, 12, .inl aB)), (ad 4, .inl (cI, 12, .inl aC)), (ad 5, .inl (cI, 12, .inl aP)), (ad 6, .inl (cI, 2, .inl aV)), (ad 7, .inl (cI, 12, .inl aN)), (sd 0, .inr (0, [.ref (sd 1), .ref (sd 2), .int (nI (mm + 1)), .int (nI lv)])), (sd 1, .inl (cI, 20, .inl (upd aM mm x))), (sd 2, .inl (cI, 6, .inl aS)), (oa, .inl (cJ, 1, .inr (.inl g0)))]) [1, 2, 3, 4, 5, 6, 7, 8, 9, 10, 11, 12, 13, 0] (by decide) rfl
  generalize H1 = H at hP hS ⊢
  subst er1
  refine lv_i2l (v := (nI (mm + 1)).toInt64) hx hb dL_claim_7 rfl ?_
  refine va_last (i := 0) hx hb hK hP hD hS 13 1 rfl rfl xo_in dL_claim_8 (fun H locs hP hD hS => ?_)
  have hP : va_P (dC, dI) vwCl [(hf 0, .inr (2, [.ref (ad 0), .ref (sd 0), .ref (hf 1), .int ms, .int ck])), (hf 1, .inl (cI, 2, .inl aF)), (ad 0, .inr (1, [.ref (ad 1), .ref (ad 2), .ref (ad 3), .ref (ad 4), .ref (ad 5), .ref (ad 6), .ref (ad 7), .int (nI n)])), (ad 1, .inl (cI, 12, .inl aK)), (ad 2, .inl (cI, 12, .inl aA)), (ad 3, .inl (cI, 12, .inl aB)), (ad 4, .inl (cI, 12, .inl aC)), (ad 5, .inl (cI, 12, .inl aP)), (ad 6, .inl (cI, 2, .inl aV)), (ad 7, .inl (cI, 12, .inl aN)), (sd 0, .inr (0, [.ref (sd 1), .ref (sd 2), .int (nI (mm + 1)), .int (nI lv)])), (sd 1, .inl (cI, 20, .inl (upd aM mm x))), (sd 2, .inl (cI, 6, .inl aS)), (oa, .inl (cJ, 1, .inr (.inl (vp_updL g0 0 ((nI (mm + 1)).toInt64)))))] H := hP
  have hD : va_D A9 [(hf 0, .inr (2, [.ref (ad 0), .ref (sd 0), .ref (hf 1), .int ms, .int ck])), (hf 1, .inl (cI, 2, .inl aF)), (ad 0, .inr (1, [.ref (ad 1), .ref (ad 2), .ref (ad 3), .ref (ad 4), .ref (ad 5), .ref (ad 6), .ref (ad 7), .int (nI n)])), (ad 1, .inl (cI, 12, .inl aK)), (ad 2, .inl (cI, 12, .inl aA)), (ad 3, .inl (cI, 12, .inl aB)), (ad 4, .inl (cI, 12, .inl aC)), (ad 5, .inl (cI, 12, .inl aP)), (ad 6, .inl (cI, 2, .inl aV)), (ad 7, .inl (cI, 12, .inl aN)), (sd 0, .inr (0, [.ref (sd 1), .ref (sd 2), .int (nI (mm + 1)), .int (nI lv)])), (sd 1, .inl (cI, 20, .inl (upd aM mm x))), (sd 2, .inl (cI, 6, .inl aS)), (oa, .inl (cJ, 1, .inr (.inl (vp_updL g0 0 ((nI (mm + 1)).toInt64)))))] := hD
  refine lv_goto (tgt := 18) hx hb dL_claim_9 (by decide) ?_
  refine lv_iconst (v := 0) hx hb dL_claim_18 (by decide) ?_
  exact W.iret (v := 0) hx hb hr (fun t9 ht9 hW9 => ⟨⟨0, (), rfl, rfl, by rw [ht9]; exact hP, va_K.moved hW9.alike hK, hD⟩, hS.F ht9⟩) hS.2.2 dL_claim_19
set_option maxHeartbeats 4000000 in
set_option maxRecDepth 100000 in
theorem ctL_open0 (hl9 : l.stackTraces = false) (sa : Nat → Nat) (sz : Nat) (hlv : lv = 5) : Met l yL_open wsL_open ({ frames := 7, cells := 1, slots := 6, locals := 120 }) (va_Pc [.ref (hf 0), .ref oa] (fun U => U.heap.size = sz ∧ va_P (dC, dI) vwCl (wF cI hf ad sd aF ms ck aK aA aB aC aP aV aN n aM aS mm lv ++ [(oa, .inl (cJ, 1, .inr (.inl g0)))]) U.heap ∧ va_K (dC, dI) vwCl [(cI, .int), (cJ, .long)] U ∧ va_D (fun _ => True) (wF cI hf ad sd aF ms ck aK aA aB aC aP aV aN n aM aS mm lv ++ [(oa, .inl (cJ, 1, .inr (.inl g0)))]) ∧ tx_E (va_A (wF cI hf ad sd aF ms ck aK aA aB aC aP aV aN n aM aS mm lv ++ [(oa, .inl (cJ, 1, .inr (.inl g0)))]) sz) sa U U.heap)) (va_Qi (fun r _ => r = 1) (fun (u : Unit) t9 => va_P (dC, dI) vwCl (wF cI hf ad sd aF ms ck aK aA aB aC aP aV aN n aM aS mm lv ++ [(oa, .inl (cJ, 1, .inr (.inl g0)))]) t9.heap ∧ va_K (dC, dI) vwCl [(cI, .int), (cJ, .long)] t9 ∧ va_D (va_A (wF cI hf ad sd aF ms ck aK aA aB aC aP aV aN n aM aS mm lv ++ [(oa, .inl (cJ, 1, .inr (.inl g0)))]) sz) (wF cI hf ad sd aF ms ck aK aA aB aC aP aV aN n aM aS mm lv ++ [(oa, .inl (cJ, 1, .inr (.inl g0)))])) (va_A (wF cI hf ad sd aF ms ck aK aA aB aC aP aV aN n aM aS mm lv ++ [(oa, .inl (cJ, 1, .inr (.inl g0)))]) sz)) 1 6 (va_A (wF cI hf ad sd aF ms ck aK aA aB aC aP aV aN n aM aS mm lv ++ [(oa, .inl (cJ, 1, .inr (.inl g0)))]) sz) := by
  refine va_MetW (cc := cL_open) (maxL := 3) (ret := (some .int)) (by decide) rfl ?_
  intro p e s m args below meth c s₁ B hml hv
  obtain ⟨rfl, hsz, hP, hK, hD0, hE⟩ := hv
  subst hsz
  have hx := B.exec
  have hb := B.bytes
  have hr := B.returns
  have hts := atoms_spec (ws := wsL_open) B.pre
  have hown : s.vm.findClass RL = some m.cls := findClass_of_methodNamed B.named
  have hlocks := B.notSynchronized
  have hl := lv_entry ([.ref (hf 0), .ref oa]) (n := 3) (Nat.le_of_ble_eq_true rfl)
  rw [lg_entry_eq]
  generalize (lg_sl ([.ref (hf 0), .ref oa]) ++ List.replicate (3 - (lg_sl ([.ref (hf 0), .ref oa])).length) Slot.unset).toArray = ls at hl ⊢
  have hl : lv_has ls 3 [(0, .ref (hf 0)), (1, .ref oa)] := hl
  have htab := vx_table (x := yL_open) B (hts _ List.mem_cons_self)
  have hKc := hK.sub (tys' := [(cI, .int)]) [0] rfl
  have hD := hD0.self (sz := s.heap.size)
  generalize hAe : va_A (wF cI hf ad sd aF ms ck aK aA aB aC aP aV aN n aM aS mm lv ++ [(oa, .inl (cJ, 1, .inr (.inl g0)))]) s.heap.size = A9 at hD hE ⊢
  have hA : ∀ q : Nat, s.heap.size ≤ q → A9 q := fun q h => by rw [← hAe]; exact Or.inr h
  have hS : va_S A9 s.heap s.heap [] := va_S.rf
  refine lv_aload_n hx hb dL_open_0 rfl (lv_at hl 1 rfl) ?_
  refine lv_iconst (v := 0) hx hb dL_open_1 (by decide) ?_
  refine lv_aload_n hx hb dL_open_2 rfl (lv_at hl 0 rfl) ?_
  have hPc := hP.sub (ws' := (wF cI hf ad sd aF ms ck aK aA aB aC aP aV aN n aM aS mm lv)) [0, 1, 2, 3, 4, 5, 6, 7, 8, 9, 10, 11, 12] rfl
  have hDc := hD.sub (ws' := (wF cI hf ad sd aF ms ck aK aA aB aC aP aV aN n aM aS mm lv)) [0, 1, 2, 3, 4, 5, 6, 7, 8, 9, 10, 11, 12] (by decide) rfl
  have hFc := va_free (wc := (wF cI hf ad sd aF ms ck aK aA aB aC aP aV aN n aM aS mm lv)) hD hS hA [0, 1, 2, 3, 4, 5, 6, 7, 8, 9, 10, 11, 12] rfl
  refine vx_calli (vx_runV (C := RX4) (b := hf 0) (As := []) (rest := [.int 0, .ref oa]) ⟨hx, hb, hml, hown, hts⟩ (ctX4_open0 l dC dI cI hf ad sd aF ms ck aK aA aB aC aP aV aN n aM aS mm lv hl9 sa s.heap.size hlv) (cwV 0 hts (wA_wsV wm_ml_L_21 wm_im_X4_open wm_se_X4_open wm_in_X4 wm_cd_X4_open) rfl rfl rfl (by decide +kernel) ⟨Nat.le_of_ble_eq_true rfl, Nat.le_of_ble_eq_true rfl⟩) ⟨fun a U g mk q => by obtain ⟨q0, q1, qP, qK, qD, qE⟩ := q; exact ⟨q0, q1, qP, va_K.moved (u := U) (U := U.calling g mk a) (Vm.Alike.refl U.vm) qK, qD, tx_E.same (s := U) (U := U.calling g mk a) rfl qE⟩, va_recv (q := (RX4, TX4, 5)) (q0 := 0) hK hP rfl rfl, fun U hU hW => ⟨rfl, by rw [hU], by rw [hU]; exact hPc, va_K.moved hW.alike hKc, hDc.weaken (fun _ _ _ _ => trivial), by rw [hU]; exact (hE.narrow hFc).warm hW⟩⟩ rfl rfl hl.1 rfl (lv_room (Nat.le_of_ble_eq_true rfl)) dL_open_3 ⟨Nat.le_of_ble_eq_true rfl, Nat.le_of_ble_eq_true rfl⟩) hS (fun q _ h => hFc q h) hFc (fun q _ h => hFc q h) (fun E ce q9 u t8 H1 locs ht8 hvm8 hpx hBX hz1 hk1 hS hq9 hce hcl => ?_) (fun r u t8 H1 locs _ _ hF => hF.elim)
  obtain ⟨rfl, hP1⟩ := hBX
  rw [ht8] at hP1
  have hD1 := hDc.self (sz := s.heap.size)
  obtain ⟨hP, hD⟩ := va_join (wr := [(oa, .inl (cJ, 1, .inr (.inl g0)))]) (w1 := [(hf 0, .inr (2, [.ref (ad 0), .ref (sd 0), .ref (hf 1), .int ms, .int ck])), (hf 1, .inl (cI, 2, .inl aF)), (ad 0, .inr (1, [.ref (ad 1), .ref (ad 2), .ref (ad 3), .ref (ad 4), .ref (ad 5), .ref (ad 6), .ref (ad 7), .int (nI n)])), (ad 1, .inl (cI, 12, .inl aK)), (ad 2, .inl (cI, 12, .inl aA)), (ad 3, .inl (cI, 12, .inl aB)), (ad 4, .inl (cI, 12, .inl aC)), (ad 5, .inl (cI, 12, .inl aP)), (ad 6, .inl (cI, 2, .inl aV)), (ad 7, .inl (cI, 12, .inl aN)), (sd 0, .inr (0, [.ref (sd 1), .ref (sd 2), .int (nI mm), .int (nI lv)])), (sd 1, .inl (cI, 20, .inl aM)), (sd 2, .inl (cI, 6, .inl aS))]) hP hD [0, 1, 2, 3, 4, 5, 6, 7, 8, 9, 10, 11, 12] [13] rfl rfl (by decide) (by decide) hk1 hFc hP1 hD1
  have hP := hP.sub (ws' := [(hf 0, .inr (2, [.ref (ad 0), .ref (sd 0), .ref (hf 1), .int ms, .int ck])), (hf 1, .inl (cI, 2, .inl aF)), (ad 0, .inr (1, [.ref (ad 1), .ref (ad 2), .ref (ad 3), .ref (ad 4), .ref (ad 5), .ref (ad 6), .ref (ad 7), .int (nI n)])), (ad 1, .inl (cI, 12, .inl aK)), (ad 2, .inl (cI, 12, .inl aA)), (ad 3, .inl (cI, 12, .inl aB)), (ad 4, .inl (cI, 12, .inl aC)), (ad 5, .inl (cI, 12, .inl aP)), (ad 6, .inl (cI, 2, .inl aV)), (ad 7, .inl (cI, 12, .inl aN)), (sd 0, .inr (0, [.ref (sd 1), .ref (sd 2), .int (nI mm), .int (nI lv)])), (sd 1, .inl (cI, 20, .inl aM)), (sd 2, .inl (cI, 6, .inl aS)), (oa, .inl (cJ, 1, .inr (.inl g0)))]) [1, 2, 3, 4, 5, 6, 7, 8, 9, 10, 11, 12, 13, 0] rfl
  have hD := hD.sub (ws' := [(hf 0, .inr (2, [.ref (ad 0), .ref (sd 0), .ref (hf 1), .int ms, .int ck])), (hf 1, .inl (cI, 2, .inl aF)), (ad 0, .inr (1, [.ref (ad 1), .ref (ad 2), .ref (ad 3), .ref (ad 4), .ref (ad 5), .ref (ad 6), .ref (ad 7), .int (nI n)])), (ad 1, .inl (cI, 12, .inl aK)), (ad 2, .inl (cI, 12, .inl aA)), (ad 3, .inl (cI, 12, .inl aB)), (ad 4, .inl (cI, 12, .inl aC)), (ad 5, .inl (cI, 12, .inl aP)), (ad 6, .inl (cI, 2, .inl aV)), (ad 7, .inl (cI, 12, .inl aN)), (sd 0, .inr (0, [.ref (sd 1), .ref (sd 2), .int (nI mm), .int (nI lv)])), (sd 1, .inl (cI, 20, .inl aM)), (sd 2, .inl (cI, 6, .inl aS)), (oa, .inl (cJ, 1, .inr (.inl g0)))]) [1, 2, 3, 4, 5, 6, 7, 8, 9, 10, 11, 12, 13, 0] (by decide) rfl
  refine vx_catch (own := RL) (name := "java/lang/IllegalStateException") hown [] ⟨0, 8, 11, 15⟩ [] (by rw [htab]; rfl) (fun z hz => nomatch hz) (by decide) (by decide) (hts _ (List.mem_cons_of_mem _ wm_cl_L_15)) (va_Nw.use rfl hE.2.1.2.1) hq9 hce hcl ?_
  refine lv_astore_n (lv' := [(2, .ref q9), (0, .ref (hf 0)), (1, .ref oa)]) hx hb dL_open_11 rfl hl (by decide) rfl (fun ls hl => ?_)
  refine lv_iconst (v := 1) hx hb dL_open_12 (by decide) ?_
  exact W.iret (v := 1) hx hb hr (fun t9 ht9 hW9 => ⟨⟨1, (), rfl, rfl, by rw [ht9]; exact hP, va_K.moved hW9.alike hK, hD⟩, hS.F ht9⟩) hS.2.2 dL_open_13
set_option maxHeartbeats 4000000 in
set_option maxRecDepth 100000 in
theorem ctL_open1 (sz : Nat) (hlv : lv < 5) : Met l yL_open wsL_open ({ frames := 7, cells := 0, slots := 0, locals := 120 }) (va_Pc [.ref (hf 0), .ref oa] (fun U => U.heap.size = sz ∧ va_P (dC, dI) vwCl (wF cI hf ad sd aF ms ck aK aA aB aC aP aV aN n aM aS mm lv ++ [(oa, .inl (cJ, 1, .inr (.inl g0)))]) U.heap ∧ va_K (dC, dI) vwCl [(cI, .int), (cJ, .long)] U ∧ va_D (fun _ => True) (wF cI hf ad sd aF ms ck aK aA aB aC aP aV aN n aM aS mm lv ++ [(oa, .inl (cJ, 1, .inr (.inl g0)))]))) (va_Qi (fun r _ => r = 0) (fun (u : Unit) t9 => va_P (dC, dI) vwCl (wF cI hf ad sd aF ms ck aK aA aB aC aP aV aN n aM (upd aS (lv + 1) (nI mm)) mm (lv + 1) ++ [(oa, .inl (cJ, 1, .inr (.inl (vp_updL g0 0 (nI (lv + 1)).toInt64))))]) t9.heap ∧ va_K (dC, dI) vwCl [(cI, .int), (cJ, .long)] t9 ∧ va_D (va_A (wF cI hf ad sd aF ms ck aK aA aB aC aP aV aN n aM aS mm lv ++ [(oa, .inl (cJ, 1, .inr (.inl g0)))]) sz) (wF cI hf ad sd aF ms ck aK aA aB aC aP aV aN n aM (upd aS (lv + 1) (nI mm)) mm (lv + 1) ++ [(oa, .inl (cJ, 1, .inr (.inl (vp_updL g0 0 (nI (lv + 1)).toInt64))))])) (va_A (wF cI hf ad sd aF ms ck aK aA aB aC aP aV aN n aM aS mm lv ++ [(oa, .inl (cJ, 1, .inr (.inl g0)))]) sz)) 0 0 (va_A (wF cI hf ad sd aF ms ck aK aA aB aC aP aV aN n aM aS mm lv ++ [(oa, .inl (cJ, 1, .inr (.inl g0)))]) sz) := by
  refine va_MetW (cc := cL_open) (maxL := 3) (ret := (some .int)) (by decide) rfl ?_
  intro p e s m args below meth c s₁ B hml hv
  obtain ⟨rfl, hsz, hP, hK, hD0⟩ := hv
  subst hsz
  have hx := B.exec
  have hb := B.bytes
  have hr := B.returns
  have hts := atoms_spec (ws := wsL_open) B.pre
  have hown : s.vm.findClass RL = some m.cls := findClass_of_methodNamed B.named
  have hlocks := B.notSynchronized
  have hl := lv_entry ([.ref (hf 0), .ref oa]) (n := 3) (Nat.le_of_ble_eq_true rfl)
  rw [lg_entry_eq]
  generalize (lg_sl ([.ref (hf 0), .ref oa]) ++ List.replicate (3 - (lg_sl ([.ref (hf 0), .ref oa])).length) Slot.unset).toArray = ls at hl ⊢
  have hl : lv_has ls 3 [(0, .ref (hf 0)), (1, .ref oa)] := hl
  have hKc := hK.sub (tys' := [(cI, .int)]) [0] rfl
  have hD := hD0.self (sz := s.heap.size)
  generalize hAe : va_A (wF cI hf ad sd aF ms ck aK aA aB aC aP aV aN n aM aS mm lv ++ [(oa, .inl (cJ, 1, .inr (.inl g0)))]) s.heap.size = A9 at hD ⊢
  have hA : ∀ q : Nat, s.heap.size ≤ q → A9 q := fun q h => by rw [← hAe]; exact Or.inr h
  have hS : va_S A9 s.heap s.heap [] := va_S.rf
  refine lv_aload_n hx hb dL_open_0 rfl (lv_at hl 1 rfl) ?_
  refine lv_iconst (v := 0) hx hb dL_open_1 (by decide) ?_
  refine lv_aload_n hx hb dL_open_2 rfl (lv_at hl 0 rfl) ?_
  have hPc := hP.sub (ws' := (wF cI hf ad sd aF ms ck aK aA aB aC aP aV aN n aM aS mm lv)) [0, 1, 2, 3, 4, 5, 6, 7, 8, 9, 10, 11, 12] rfl
  have hDc := hD.sub (ws' := (wF cI hf ad sd aF ms ck aK aA aB aC aP aV aN n aM aS mm lv)) [0, 1, 2, 3, 4, 5, 6, 7, 8, 9, 10, 11, 12] (by decide) rfl
  have hFc := va_free (wc := (wF cI hf ad sd aF ms ck aK aA aB aC aP aV aN n aM aS mm lv)) hD hS hA [0, 1, 2, 3, 4, 5, 6, 7, 8, 9, 10, 11, 12] rfl
  refine va_calli (va_runV (C := RX4) (b := hf 0) (As := []) (rest := [.int 0, .ref oa]) ⟨hx, hb, hml, hown, hts⟩ (ctX4_open1 l dC dI cI hf ad sd aF ms ck aK aA aB aC aP aV aN n aM aS mm lv s.heap.size hlv) (cwV 0 hts (wA_wsV wm_ml_L_21 wm_im_X4_open wm_se_X4_open wm_in_X4 wm_cd_X4_open) rfl rfl rfl (by decide +kernel) ⟨Nat.le_of_ble_eq_true rfl, Nat.le_of_ble_eq_true rfl⟩) ⟨fun a U g mk q => by obtain ⟨q0, q1, qP, qK, qD⟩ := q; exact ⟨q0, q1, qP, va_K.moved (u := U) (U := U.calling g mk a) (Vm.Alike.refl U.vm) qK, qD⟩, va_recv (q := (RX4, TX4, 5)) (q0 := 0) hK hP rfl rfl, fun U hU hW => ⟨rfl, by rw [hU], by rw [hU]; exact hPc, va_K.moved hW.alike hKc, hDc.weaken (fun _ _ _ _ => trivial)⟩⟩ rfl rfl hl.1 rfl (lv_room (Nat.le_of_ble_eq_true rfl)) dL_open_3 ⟨Nat.zero_le _, Nat.zero_le _⟩) hS (fun q _ h => hFc q h) hFc (fun r1 u t8 H1 locs ht8 hvm8 er1 hB hz1 hk1 hS => ?_)
  obtain ⟨hP1, hK1, hD1⟩ := hB
  rw [ht8] at hP1
  obtain ⟨hP, hD⟩ := va_join (wr := [(oa, .inl (cJ, 1, .inr (.inl g0)))]) (w1 := [(hf 0, .inr (2, [.ref (ad 0), .ref (sd 0), .ref (hf 1), .int ms, .int ck])), (hf 1, .inl (cI, 2, .inl aF)), (ad 0, .inr (1, [.ref (ad 1), .ref (ad 2), .ref (ad 3), .ref (ad 4), .ref (ad 5), .ref (ad 6), .ref (ad 7), .int (nI n)])), (ad 1, .inl (cI, 12, .inl aK)), (ad 2, .inl (cI, 12, .inl aA)), (ad 3, .inl (cI, 12, .inl aB)), (ad 4, .inl (cI, 12, .inl aC)), (ad 5, .inl (cI, 12, .inl aP)), (ad 6, .inl (cI, 2, .inl aV)), (ad 7, .inl (cI, 12, .inl aN)), (sd 0, .inr (0, [.ref (sd 1), .ref (sd 2), .int (nI mm), .int (nI (lv + 1))])), (sd 1, .inl (cI, 20, .inl aM)), (sd 2, .inl (cI, 6, .inl (upd aS (lv + 1) (nI mm))))]) hP hD [0, 1, 2, 3, 4, 5, 6, 7, 8, 9, 10, 11, 12] [13] rfl rfl (by decide) (by decide) hk1 hFc hP1 hD1
  have hP := hP.sub (ws' := [(hf 0, .inr (2, [.ref (ad 0), .ref (sd 0), .ref (hf 1), .int ms, .int ck])), (hf 1, .inl (cI, 2, .inl aF)), (ad 0, .inr (1, [.ref (ad 1), .ref (ad 2), .ref (ad 3), .ref (ad 4), .ref (ad 5), .ref (ad 6), .ref (ad 7), .int (nI n)])), (ad 1, .inl (cI, 12, .inl aK)), (ad 2, .inl (cI, 12, .inl aA)), (ad 3, .inl (cI, 12, .inl aB)), (ad 4, .inl (cI, 12, .inl aC)), (ad 5, .inl (cI, 12, .inl aP)), (ad 6, .inl (cI, 2, .inl aV)), (ad 7, .inl (cI, 12, .inl aN)), (sd 0, .inr (0, [.ref (sd 1), .ref (sd 2), .int (nI mm), .int (nI (lv + 1))])), (sd 1, .inl (cI, 20, .inl aM)), (sd 2, .inl (cI, 6, .inl (upd aS (lv + 1) (nI mm)))), (oa, .inl (cJ, 1, .inr (.inl g0)))]) [1, 2, 3, 4, 5, 6, 7, 8, 9, 10, 11, 12, 13, 0] rfl
  have hD := hD.sub (ws' := [(hf 0, .inr (2, [.ref (ad 0), .ref (sd 0), .ref (hf 1), .int ms, .int ck])), (hf 1, .inl (cI, 2, .inl aF)), (ad 0, .inr (1, [.ref (ad 1), .ref (ad 2), .ref (ad 3), .ref (ad 4), .ref (ad 5), .ref (ad 6), .ref (ad 7), .int (nI n)])), (ad 1, .inl (cI, 12, .inl aK)), (ad 2, .inl (cI, 12, .inl aA)), (ad 3, .inl (cI, 12, .inl aB)), (ad 4, .inl (cI, 12, .inl aC)), (ad 5, .inl (cI, 12, .inl aP)), (ad 6, .inl (cI, 2, .inl aV)), (ad 7, .inl (cI, 12, .inl aN)), (sd 0, .inr (0, [.ref (sd 1), .ref (sd 2), .int (nI mm), .int (nI (lv + 1))])), (sd 1, .inl (cI, 20, .inl aM)), (sd 2, .inl (cI, 6, .inl (upd aS (lv + 1) (nI mm)))), (oa, .inl (cJ, 1, .inr (.inl g0)))]) [1, 2, 3, 4, 5, 6, 7, 8, 9, 10, 11, 12, 13, 0] (by decide) rfl
  generalize H1 = H at hP hS ⊢
  subst er1
  refine lv_i2l (v := (nI (lv + 1)).toInt64) hx hb dL_open_6 rfl ?_
  refine va_last (i := 0) hx hb hK hP hD hS 13 1 rfl rfl xo_in dL_open_7 (fun H locs hP hD hS => ?_)
  have hP : va_P (dC, dI) vwCl [(hf 0, .inr (2, [.ref (ad 0), .ref (sd 0), .ref (hf 1), .int ms, .int ck])), (hf 1, .inl (cI, 2, .inl aF)), (ad 0, .inr (1, [.ref (ad 1), .ref (ad 2), .ref (ad 3), .ref (ad 4), .ref (ad 5), .ref (ad 6), .ref (ad 7), .int (nI n)])), (ad 1, .inl (cI, 12, .inl aK)), (ad 2, .inl (cI, 12, .inl aA)), (ad 3, .inl (cI, 12, .inl aB)), (ad 4, .inl (cI, 12, .inl aC)), (ad 5, .inl (cI, 12, .inl aP)), (ad 6, .inl (cI, 2, .inl aV)), (ad 7, .inl (cI, 12, .inl aN)), (sd 0, .inr (0, [.ref (sd 1), .ref (sd 2), .int (nI mm), .int (nI (lv + 1))])), (sd 1, .inl (cI, 20, .inl aM)), (sd 2, .inl (cI, 6, .inl (upd aS (lv + 1) (nI mm)))), (oa, .inl (cJ, 1, .inr (.inl (vp_updL g0 0 ((nI (lv + 1)).toInt64)))))] H := hP
  have hD : va_D A9 [(hf 0, .inr (2, [.ref (ad 0), .ref (sd 0), .ref (hf 1), .int ms, .int ck])), (hf 1, .inl (cI, 2, .inl aF)), (ad 0, .inr (1, [.ref (ad 1), .ref (ad 2), .ref (ad 3), .ref (ad 4), .ref (ad 5), .ref (ad 6), .ref (ad 7), .int (nI n)])), (ad 1, .inl (cI, 12, .inl aK)), (ad 2, .inl (cI, 12, .inl aA)), (ad 3, .inl (cI, 12, .inl aB)), (ad 4, .inl (cI, 12, .inl aC)), (ad 5, .inl (cI, 12, .inl aP)), (ad 6, .inl (cI, 2, .inl aV)), (ad 7, .inl (cI, 12, .inl aN)), (sd 0, .inr (0, [.ref (sd 1), .ref (sd 2), .int (nI mm), .int (nI (lv + 1))])), (sd 1, .inl (cI, 20, .inl aM)), (sd 2, .inl (cI, 6, .inl (upd aS (lv + 1) (nI mm)))), (oa, .inl (cJ, 1, .inr (.inl (vp_updL g0 0 ((nI (lv + 1)).toInt64)))))] := hD
  refine lv_goto (tgt := 14) hx hb dL_open_8 (by decide) ?_
  refine lv_iconst (v := 0) hx hb dL_open_14 (by decide) ?_
  exact W.iret (v := 0) hx hb hr (fun t9 ht9 hW9 => ⟨⟨0, (), rfl, rfl, by rw [ht9]; exact hP, va_K.moved hW9.alike hK, hD⟩, hS.F ht9⟩) hS.2.2 dL_open_15
set_option maxHeartbeats 4000000 in
set_option maxRecDepth 100000 in
theorem ctL_close0 (hl9 : l.stackTraces = false) (sa : Nat → Nat) (sz : Nat) : Met l yL_close wsL_close ({ frames := 7, cells := 1, slots := 6, locals := 120 }) (va_Pc [.ref (hf 0), .ref oa] (fun U => U.heap.size = sz ∧ va_P (dC, dI) vwCl (wF cI hf ad sd aF ms ck aK aA aB aC aP aV aN n aM aS mm 0 ++ [(oa, .inl (cJ, 1, .inr (.inl g0)))]) U.heap ∧ va_K (dC, dI) vwCl [(cI, .int), (cJ, .long)] U ∧ va_D (fun _ => True) (wF cI hf ad sd aF ms ck aK aA aB aC aP aV aN n aM aS mm 0 ++ [(oa, .inl (cJ, 1, .inr (.inl g0)))]) ∧ tx_E (va_A (wF cI hf ad sd aF ms ck aK aA aB aC aP aV aN n aM aS mm 0 ++ [(oa, .inl (cJ, 1, .inr (.inl g0)))]) sz) sa U U.heap)) (va_Qi (fun r _ => r = 1) (fun (u : Unit) t9 => va_P (dC, dI) vwCl (wF cI hf ad sd aF ms ck aK aA aB aC aP aV aN n aM aS mm 0 ++ [(oa, .inl (cJ, 1, .inr (.inl g0)))]) t9.heap ∧ va_K (dC, dI) vwCl [(cI, .int), (cJ, .long)] t9 ∧ va_D (va_A (wF cI hf ad sd aF ms ck aK aA aB aC aP aV aN n aM aS mm 0 ++ [(oa, .inl (cJ, 1, .inr (.inl g0)))]) sz) (wF cI hf ad sd aF ms ck aK aA aB aC aP aV aN n aM aS mm 0 ++ [(oa, .inl (cJ, 1, .inr (.inl g0)))])) (va_A (wF cI hf ad sd aF ms ck aK aA aB aC aP aV aN n aM aS mm 0 ++ [(oa, .inl (cJ, 1, .inr (.inl g0)))]) sz)) 1 6 (va_A (wF cI hf ad sd aF ms ck aK aA aB aC aP aV aN n aM aS mm 0 ++ [(oa, .inl (cJ, 1, .inr (.inl g0)))]) sz) := by
  refine va_MetW (cc := cL_close) (maxL := 3) (ret := (some .int)) (by decide) rfl ?_
  intro p e s m args below meth c s₁ B hml hv
  obtain ⟨rfl, hsz, hP, hK, hD0, hE⟩ := hv
  subst hsz
  have hx := B.exec
  have hb := B.bytes
  have hr := B.returns
  have hts := atoms_spec (ws := wsL_close) B.pre
  have hown : s.vm.findClass RL = some m.cls := findClass_of_methodNamed B.named
  have hlocks := B.notSynchronized
  have hl := lv_entry ([.ref (hf 0), .ref oa]) (n := 3) (Nat.le_of_ble_eq_true rfl)
  rw [lg_entry_eq]
  generalize (lg_sl ([.ref (hf 0), .ref oa]) ++ List.replicate (3 - (lg_sl ([.ref (hf 0), .ref oa])).length) Slot.unset).toArray = ls at hl ⊢
  have hl : lv_has ls 3 [(0, .ref (hf 0)), (1, .ref oa)] := hl
  have htab := vx_table (x := yL_close) B (hts _ List.mem_cons_self)
  have hKc := hK.sub (tys' := [(cI, .int)]) [0] rfl
  have hD := hD0.self (sz := s.heap.size)
  generalize hAe : va_A (wF cI hf ad sd aF ms ck aK aA aB aC aP aV aN n aM aS mm 0 ++ [(oa, .inl (cJ, 1, .inr (.inl g0)))]) s.heap.size = A9 at hD hE ⊢
  have hA : ∀ q : Nat, s.heap.size ≤ q → A9 q := fun q h => by rw [← hAe]; exact Or.inr h
  have hS : va_S A9 s.heap s.heap [] := va_S.rf
  refine lv_aload_n hx hb dL_close_0 rfl (lv_at hl 1 rfl) ?_
  refine lv_iconst (v := 0) hx hb dL_close_1 (by decide) ?_
  refine lv_aload_n hx hb dL_close_2 rfl (lv_at hl 0 rfl) ?_
  have hPc := hP.sub (ws' := (wF cI hf ad sd aF ms ck aK aA aB aC aP aV aN n aM aS mm 0)) [0, 1, 2, 3, 4, 5, 6, 7, 8, 9, 10, 11, 12] rfl
  have hDc := hD.sub (ws' := (wF cI hf ad sd aF ms ck aK aA aB aC aP aV aN n aM aS mm 0)) [0, 1, 2, 3, 4, 5, 6, 7, 8, 9, 10, 11, 12] (by decide) rfl
  have hFc := va_free (wc := (wF cI hf ad sd aF ms ck aK aA aB aC aP aV aN n aM aS mm 0)) hD hS hA [0, 1, 2, 3, 4, 5, 6, 7, 8, 9, 10, 11, 12] rfl
  refine vx_calli (vx_runV (C := RX4) (b := hf 0) (As := []) (rest := [.int 0, .ref oa]) ⟨hx, hb, hml, hown, hts⟩ (ctX4_close0 l dC dI cI hf ad sd aF ms ck aK aA aB aC aP aV aN n aM aS mm hl9 sa s.heap.size) (cwV 0 hts (wA_wsV wm_ml_L_25 wm_im_X4_close wm_se_X4_close wm_in_X4 wm_cd_X4_close) rfl rfl rfl (by decide +kernel) ⟨Nat.le_of_ble_eq_true rfl, Nat.le_of_ble_eq_true rfl⟩) ⟨fun a U g mk q => by obtain ⟨q0, q1, qP, qK, qD, qE⟩ := q; exact ⟨q0, q1, qP, va_K.moved (u := U) (U := U.calling g mk a) (Vm.Alike.refl U.vm) qK, qD, tx_E.same (s := U) (U := U.calling g mk a) rfl qE⟩, va_recv (q := (RX4, TX4, 5)) (q0 := 0) hK hP rfl rfl, fun U hU hW => ⟨rfl, by rw [hU], by rw [hU]; exact hPc, va_K.moved hW.alike hKc, hDc.weaken (fun _ _ _ _ => trivial), by rw [hU]; exact (hE.narrow hFc).warm hW⟩⟩ rfl rfl hl.1 rfl (lv_room (Nat.le_of_ble_eq_true rfl)) dL_close_3 ⟨Nat.le_of_ble_eq_true rfl, Nat.le_of_ble_eq_true rfl⟩) hS (fun q _ h => hFc q h) hFc (fun q _ h => hFc q h) (fun E ce q9 u t8 H1 locs ht8 hvm8 hpx hBX hz1 hk1 hS hq9 hce hcl => ?_) (fun r u t8 H1 locs _ _ hF => hF.elim)
  obtain ⟨rfl, hP1⟩ := hBX
  rw [ht8] at hP1
  have hD1 := hDc.self (sz := s.heap.size)
  obtain ⟨hP, hD⟩ := va_join (wr := [(oa, .inl (cJ, 1, .inr (.inl g0)))]) (w1 := [(hf 0, .inr (2, [.ref (ad 0), .ref (sd 0), .ref (hf 1), .int ms, .int ck])), (hf 1, .inl (cI, 2, .inl aF)), (ad 0, .inr (1, [.ref (ad 1), .ref (ad 2), .ref (ad 3), .ref (ad 4), .ref (ad 5), .ref (ad 6), .ref (ad 7), .int (nI n)])), (ad 1, .inl (cI, 12, .inl aK)), (ad 2, .inl (cI, 12, .inl aA)), (ad 3, .inl (cI, 12, .inl aB)), (ad 4, .inl (cI, 12, .inl aC)), (ad 5, .inl (cI, 12, .inl aP)), (ad 6, .inl (cI, 2, .inl aV)), (ad 7, .inl (cI, 12, .inl aN)), (sd 0, .inr (0, [.ref (sd 1), .ref (sd 2), .int (nI mm), .int (nI 0)])), (sd 1, .inl (cI, 20, .inl aM)), (sd 2, .inl (cI, 6, .inl aS))]) hP hD [0, 1, 2, 3, 4, 5, 6, 7, 8, 9, 10, 11, 12] [13] rfl rfl (by decide) (by decide) hk1 hFc hP1 hD1
  have hP := hP.sub (ws' := [(hf 0, .inr (2, [.ref (ad 0), .ref (sd 0), .ref (hf 1), .int ms, .int ck])), (hf 1, .inl (cI, 2, .inl aF)), (ad 0, .inr (1, [.ref (ad 1), .ref (ad 2), .ref (ad 3), .ref (ad 4), .ref (ad 5), .ref (ad 6), .ref (ad 7), .int (nI n)])), (ad 1, .inl (cI, 12, .inl aK)), (ad 2, .inl (cI, 12, .inl aA)), (ad 3, .inl (cI, 12, .inl aB)), (ad 4, .inl (cI, 12, .inl aC)), (ad 5, .inl (cI, 12, .inl aP)), (ad 6, .inl (cI, 2, .inl aV)), (ad 7, .inl (cI, 12, .inl aN)), (sd 0, .inr (0, [.ref (sd 1), .ref (sd 2), .int (nI mm), .int (nI 0)])), (sd 1, .inl (cI, 20, .inl aM)), (sd 2, .inl (cI, 6, .inl aS)), (oa, .inl (cJ, 1, .inr (.inl g0)))]) [1, 2, 3, 4, 5, 6, 7, 8, 9, 10, 11, 12, 13, 0] rfl
  have hD := hD.sub (ws' := [(hf 0, .inr (2, [.ref (ad 0), .ref (sd 0), .ref (hf 1), .int ms, .int ck])), (hf 1, .inl (cI, 2, .inl aF)), (ad 0, .inr (1, [.ref (ad 1), .ref (ad 2), .ref (ad 3), .ref (ad 4), .ref (ad 5), .ref (ad 6), .ref (ad 7), .int (nI n)])), (ad 1, .inl (cI, 12, .inl aK)), (ad 2, .inl (cI, 12, .inl aA)), (ad 3, .inl (cI, 12, .inl aB)), (ad 4, .inl (cI, 12, .inl aC)), (ad 5, .inl (cI, 12, .inl aP)), (ad 6, .inl (cI, 2, .inl aV)), (ad 7, .inl (cI, 12, .inl aN)), (sd 0, .inr (0, [.ref (sd 1), .ref (sd 2), .int (nI mm), .int (nI 0)])), (sd 1, .inl (cI, 20, .inl aM)), (sd 2, .inl (cI, 6, .inl aS)), (oa, .inl (cJ, 1, .inr (.inl g0)))]) [1, 2, 3, 4, 5, 6, 7, 8, 9, 10, 11, 12, 13, 0] (by decide) rfl
  refine vx_catch (own := RL) (name := "java/lang/IllegalStateException") hown [] ⟨0, 8, 11, 15⟩ [] (by rw [htab]; rfl) (fun z hz => nomatch hz) (by decide) (by decide) (hts _ (List.mem_cons_of_mem _ wm_cl_L_15)) (va_Nw.use rfl hE.2.1.2.1) hq9 hce hcl ?_
  refine lv_astore_n (lv' := [(2, .ref q9), (0, .ref (hf 0)), (1, .ref oa)]) hx hb dL_close_11 rfl hl (by decide) rfl (fun ls hl => ?_)
  refine lv_iconst (v := 1) hx hb dL_close_12 (by decide) ?_
  exact W.iret (v := 1) hx hb hr (fun t9 ht9 hW9 => ⟨⟨1, (), rfl, rfl, by rw [ht9]; exact hP, va_K.moved hW9.alike hK, hD⟩, hS.F ht9⟩) hS.2.2 dL_close_13
set_option maxHeartbeats 4000000 in
set_option maxRecDepth 100000 in
theorem ctL_close1 (sz v0 : Nat) (hlv : lv < 5) (hv0 : v0 ≤ mm) (has : aS (lv + 1) = nI v0) : Met l yL_close wsL_close ({ frames := 7, cells := 0, slots := 0, locals := 120 }) (va_Pc [.ref (hf 0), .ref oa] (fun U => U.heap.size = sz ∧ va_P (dC, dI) vwCl (wF cI hf ad sd aF ms ck aK aA aB aC aP aV aN n aM aS mm (lv + 1) ++ [(oa, .inl (cJ, 1, .inr (.inl g0)))]) U.heap ∧ va_K (dC, dI) vwCl [(cI, .int), (cJ, .long)] U ∧ va_D (fun _ => True) (wF cI hf ad sd aF ms ck aK aA aB aC aP aV aN n aM aS mm (lv + 1) ++ [(oa, .inl (cJ, 1, .inr (.inl g0)))]))) (va_Qi (fun r _ => r = 0) (fun (u : Unit) t9 => va_P (dC, dI) vwCl (wF cI hf ad sd aF ms ck aK aA aB aC aP aV aN n aM aS v0 lv ++ [(oa, .inl (cJ, 1, .inr (.inl (vp_updL g0 0 (nI (mm - v0)).toInt64))))]) t9.heap ∧ va_K (dC, dI) vwCl [(cI, .int), (cJ, .long)] t9 ∧ va_D (va_A (wF cI hf ad sd aF ms ck aK aA aB aC aP aV aN n aM aS mm (lv + 1) ++ [(oa, .inl (cJ, 1, .inr (.inl g0)))]) sz) (wF cI hf ad sd aF ms ck aK aA aB aC aP aV aN n aM aS v0 lv ++ [(oa, .inl (cJ, 1, .inr (.inl (vp_updL g0 0 (nI (mm - v0)).toInt64))))])) (va_A (wF cI hf ad sd aF ms ck aK aA aB aC aP aV aN n aM aS mm (lv + 1) ++ [(oa, .inl (cJ, 1, .inr (.inl g0)))]) sz)) 0 0 (va_A (wF cI hf ad sd aF ms ck aK aA aB aC aP aV aN n aM aS mm (lv + 1) ++ [(oa, .inl (cJ, 1, .inr (.inl g0)))]) sz) := by
  refine va_MetW (cc := cL_close) (maxL := 3) (ret := (some .int)) (by decide) rfl ?_
  intro p e s m args below meth c s₁ B hml hv
  obtain ⟨rfl, hsz, hP, hK, hD0⟩ := hv
  subst hsz
  have hx := B.exec
  have hb := B.bytes
  have hr := B.returns
  have hts := atoms_spec (ws := wsL_close) B.pre
  have hown : s.vm.findClass RL = some m.cls := findClass_of_methodNamed B.named
  have hlocks := B.notSynchronized
  have hl := lv_entry ([.ref (hf 0), .ref oa]) (n := 3) (Nat.le_of_ble_eq_true rfl)
  rw [lg_entry_eq]
  generalize (lg_sl ([.ref (hf 0), .ref oa]) ++ List.replicate (3 - (lg_sl ([.ref (hf 0), .ref oa])).length) Slot.unset).toArray = ls at hl ⊢
  have hl : lv_has ls 3 [(0, .ref (hf 0)), (1, .ref oa)] := hl
  have hKc := hK.sub (tys' := [(cI, .int)]) [0] rfl
  have hD := hD0.self (sz := s.heap.size)
  generalize hAe : va_A (wF cI hf ad sd aF ms ck aK aA aB aC aP aV aN n aM aS mm (lv + 1) ++ [(oa, .inl (cJ, 1, .inr (.inl g0)))]) s.heap.size = A9 at hD ⊢
  have hA : ∀ q : Nat, s.heap.size ≤ q → A9 q := fun q h => by rw [← hAe]; exact Or.inr h
  have hS : va_S A9 s.heap s.heap [] := va_S.rf
  refine lv_aload_n hx hb dL_close_0 rfl (lv_at hl 1 rfl) ?_
  refine lv_iconst (v := 0) hx hb dL_close_1 (by decide) ?_
  refine lv_aload_n hx hb dL_close_2 rfl (lv_at hl 0 rfl) ?_
  have hPc := hP.sub (ws' := (wF cI hf ad sd aF ms ck aK aA aB aC aP aV aN n aM aS mm (lv + 1))) [0, 1, 2, 3, 4, 5, 6, 7, 8, 9, 10, 11, 12] rfl
  have hDc := hD.sub (ws' := (wF cI hf ad sd aF ms ck aK aA aB aC aP aV aN n aM aS mm (lv + 1))) [0, 1, 2, 3, 4, 5, 6, 7, 8, 9, 10, 11, 12] (by decide) rfl
  have hFc := va_free (wc := (wF cI hf ad sd aF ms ck aK aA aB aC aP aV aN n aM aS mm (lv + 1))) hD hS hA [0, 1, 2, 3, 4, 5, 6, 7, 8, 9, 10, 11, 12] rfl
  refine va_calli (va_runV (C := RX4) (b := hf 0) (As := []) (rest := [.int 0, .ref oa]) ⟨hx, hb, hml, hown, hts⟩ (ctX4_close1 l dC dI cI hf ad sd aF ms ck aK aA aB aC aP aV aN n aM aS mm lv s.heap.size v0 hlv hv0 has) (cwV 0 hts (wA_wsV wm_ml_L_25 wm_im_X4_close wm_se_X4_close wm_in_X4 wm_cd_X4_close) rfl rfl rfl (by decide +kernel) ⟨Nat.le_of_ble_eq_true rfl, Nat.le_of_ble_eq_true rfl⟩) ⟨fun a U g mk q => by obtain ⟨q0, q1, qP, qK, qD⟩ := q; exact ⟨q0, q1, qP, va_K.moved (u := U) (U := U.calling g mk a) (Vm.Alike.refl U.vm) qK, qD⟩, va_recv (q := (RX4, TX4, 5)) (q0 := 0) hK hP rfl rfl, fun U hU hW => ⟨rfl, by rw [hU], by rw [hU]; exact hPc, va_K.moved hW.alike hKc, hDc.weaken (fun _ _ _ _ => trivial)⟩⟩ rfl rfl hl.1 rfl (lv_room (Nat.le_of_ble_eq_true rfl)) dL_close_3 ⟨Nat.zero_le _, Nat.zero_le _⟩) hS (fun q _ h => hFc q h) hFc (fun r1 u t8 H1 locs ht8 hvm8 er1 hB hz1 hk1 hS => ?_)
  obtain ⟨hP1, hK1, hD1⟩ := hB
  rw [ht8] at hP1
  obtain ⟨hP, hD⟩ := va_join (wr := [(oa, .inl (cJ, 1, .inr (.inl g0)))]) (w1 := [(hf 0, .inr (2, [.ref (ad 0), .ref (sd 0), .ref (hf 1), .int ms, .int ck])), (hf 1, .inl (cI, 2, .inl aF)), (ad 0, .inr (1, [.ref (ad 1), .ref (ad 2), .ref (ad 3), .ref (ad 4), .ref (ad 5), .ref (ad 6), .ref (ad 7), .int (nI n)])), (ad 1, .inl (cI, 12, .inl aK)), (ad 2, .inl (cI, 12, .inl aA)), (ad 3, .inl (cI, 12, .inl aB)), (ad 4, .inl (cI, 12, .inl aC)), (ad 5, .inl (cI, 12, .inl aP)), (ad 6, .inl (cI, 2, .inl aV)), (ad 7, .inl (cI, 12, .inl aN)), (sd 0, .inr (0, [.ref (sd 1), .ref (sd 2), .int (nI v0), .int (nI lv)])), (sd 1, .inl (cI, 20, .inl aM)), (sd 2, .inl (cI, 6, .inl aS))]) hP hD [0, 1, 2, 3, 4, 5, 6, 7, 8, 9, 10, 11, 12] [13] rfl rfl (by decide) (by decide) hk1 hFc hP1 hD1
  have hP := hP.sub (ws' := [(hf 0, .inr (2, [.ref (ad 0), .ref (sd 0), .ref (hf 1), .int ms, .int ck])), (hf 1, .inl (cI, 2, .inl aF)), (ad 0, .inr (1, [.ref (ad 1), .ref (ad 2), .ref (ad 3), .ref (ad 4), .ref (ad 5), .ref (ad 6), .ref (ad 7), .int (nI n)])), (ad 1, .inl (cI, 12, .inl aK)), (ad 2, .inl (cI, 12, .inl aA)), (ad 3, .inl (cI, 12, .inl aB)), (ad 4, .inl (cI, 12, .inl aC)), (ad 5, .inl (cI, 12, .inl aP)), (ad 6, .inl (cI, 2, .inl aV)), (ad 7, .inl (cI, 12, .inl aN)), (sd 0, .inr (0, [.ref (sd 1), .ref (sd 2), .int (nI v0), .int (nI lv)])), (sd 1, .inl (cI, 20, .inl aM)), (sd 2, .inl (cI, 6, .inl aS)), (oa, .inl (cJ, 1, .inr (.inl g0)))]) [1, 2, 3, 4, 5, 6, 7, 8, 9, 10, 11, 12, 13, 0] rfl
  have hD := hD.sub (ws' := [(hf 0, .inr (2, [.ref (ad 0), .ref (sd 0), .ref (hf 1), .int ms, .int ck])), (hf 1, .inl (cI, 2, .inl aF)), (ad 0, .inr (1, [.ref (ad 1), .ref (ad 2), .ref (ad 3), .ref (ad 4), .ref (ad 5), .ref (ad 6), .ref (ad 7), .int (nI n)])), (ad 1, .inl (cI, 12, .inl aK)), (ad 2, .inl (cI, 12, .inl aA)), (ad 3, .inl (cI, 12, .inl aB)), (ad 4, .inl (cI, 12, .inl aC)), (ad 5, .inl (cI, 12, .inl aP)), (ad 6, .inl (cI, 2, .inl aV)), (ad 7, .inl (cI, 12, .inl aN)), (sd 0, .inr (0, [.ref (sd 1), .ref (sd 2), .int (nI v0), .int (nI lv)])), (sd 1, .inl (cI, 20, .inl aM)), (sd 2, .inl (cI, 6, .inl aS)), (oa, .inl (cJ, 1, .inr (.inl g0)))]) [1, 2, 3, 4, 5, 6, 7, 8, 9, 10, 11, 12, 13, 0] (by decide) rfl
  generalize H1 = H at hP hS ⊢
  subst er1
  refine lv_i2l (v := (nI (mm - v0)).toInt64) hx hb dL_close_6 rfl ?_
  refine va_last (i := 0) hx hb hK hP hD hS 13 1 rfl rfl xo_in dL_close_7 (fun H locs hP hD hS => ?_)
  have hP : va_P (dC, dI) vwCl [(hf 0, .inr (2, [.ref (ad 0), .ref (sd 0), .ref (hf 1), .int ms, .int ck])), (hf 1, .inl (cI, 2, .inl aF)), (ad 0, .inr (1, [.ref (ad 1), .ref (ad 2), .ref (ad 3), .ref (ad 4), .ref (ad 5), .ref (ad 6), .ref (ad 7), .int (nI n)])), (ad 1, .inl (cI, 12, .inl aK)), (ad 2, .inl (cI, 12, .inl aA)), (ad 3, .inl (cI, 12, .inl aB)), (ad 4, .inl (cI, 12, .inl aC)), (ad 5, .inl (cI, 12, .inl aP)), (ad 6, .inl (cI, 2, .inl aV)), (ad 7, .inl (cI, 12, .inl aN)), (sd 0, .inr (0, [.ref (sd 1), .ref (sd 2), .int (nI v0), .int (nI lv)])), (sd 1, .inl (cI, 20, .inl aM)), (sd 2, .inl (cI, 6, .inl aS)), (oa, .inl (cJ, 1, .inr (.inl (vp_updL g0 0 ((nI (mm - v0)).toInt64)))))] H := hP
  have hD : va_D A9 [(hf 0, .inr (2, [.ref (ad 0), .ref (sd 0), .ref (hf 1), .int ms, .int ck])), (hf 1, .inl (cI, 2, .inl aF)), (ad 0, .inr (1, [.ref (ad 1), .ref (ad 2), .ref (ad 3), .ref (ad 4), .ref (ad 5), .ref (ad 6), .ref (ad 7), .int (nI n)])), (ad 1, .inl (cI, 12, .inl aK)), (ad 2, .inl (cI, 12, .inl aA)), (ad 3, .inl (cI, 12, .inl aB)), (ad 4, .inl (cI, 12, .inl aC)), (ad 5, .inl (cI, 12, .inl aP)), (ad 6, .inl (cI, 2, .inl aV)), (ad 7, .inl (cI, 12, .inl aN)), (sd 0, .inr (0, [.ref (sd 1), .ref (sd 2), .int (nI v0), .int (nI lv)])), (sd 1, .inl (cI, 20, .inl aM)), (sd 2, .inl (cI, 6, .inl aS)), (oa, .inl (cJ, 1, .inr (.inl (vp_updL g0 0 ((nI (mm - v0)).toInt64)))))] := hD
  refine lv_goto (tgt := 14) hx hb dL_close_8 (by decide) ?_
  refine lv_iconst (v := 0) hx hb dL_close_14 (by decide) ?_
  exact W.iret (v := 0) hx hb hr (fun t9 ht9 hW9 => ⟨⟨0, (), rfl, rfl, by rw [ht9]; exact hP, va_K.moved hW9.alike hK, hD⟩, hS.F ht9⟩) hS.2.2 dL_close_15
set_option maxHeartbeats 4000000 in
set_option maxRecDepth 100000 in
theorem ctL_model0 (hl9 : l.stackTraces = false) (sa : Nat → Nat) (sz : Nat) (x : Int32) (hno : ¬ ∃ j, j < 2 ∧ x = nI j) : Met l yL_model wsL_model ({ frames := 7, cells := 1, slots := 6, locals := 121 }) (va_Pc [.ref (hf 0), .int x, .ref oa] (fun U => U.heap.size = sz ∧ va_P (dC, dI) vwCl (wF cI hf ad sd aF ms ck aK aA aB aC aP aV aN n aM aS mm lv ++ [(oa, .inl (cJ, 1, .inr (.inl g0)))]) U.heap ∧ va_K (dC, dI) vwCl [(cI, .int), (cJ, .long)] U ∧ va_D (fun _ => True) (wF cI hf ad sd aF ms ck aK aA aB aC aP aV aN n aM aS mm lv ++ [(oa, .inl (cJ, 1, .inr (.inl g0)))]) ∧ tx_E (va_A (wF cI hf ad sd aF ms ck aK aA aB aC aP aV aN n aM aS mm lv ++ [(oa, .inl (cJ, 1, .inr (.inl g0)))]) sz) sa U U.heap)) (va_Qi (fun r _ => r = 1) (fun (u : Unit) t9 => va_P (dC, dI) vwCl (wF cI hf ad sd aF ms ck aK aA aB aC aP aV aN n aM aS mm lv ++ [(oa, .inl (cJ, 1, .inr (.inl g0)))]) t9.heap ∧ va_K (dC, dI) vwCl [(cI, .int), (cJ, .long)] t9 ∧ va_D (va_A (wF cI hf ad sd aF ms ck aK aA aB aC aP aV aN n aM aS mm lv ++ [(oa, .inl (cJ, 1, .inr (.inl g0)))]) sz) (wF cI hf ad sd aF ms ck aK aA aB aC aP aV aN n aM aS mm lv ++ [(oa, .inl (cJ, 1, .inr (.inl g0)))])) (va_A (wF cI hf ad sd aF ms ck aK aA aB aC aP aV aN n aM aS mm lv ++ [(oa, .inl (cJ, 1, .inr (.inl g0)))]) sz)) 1 6 (va_A (wF cI hf ad sd aF ms ck aK aA aB aC aP aV aN n aM aS mm lv ++ [(oa, .inl (cJ, 1, .inr (.inl g0)))]) sz) := by
  refine va_MetW (cc := cL_model) (maxL := 4) (ret := (some .int)) (by decide) rfl ?_
  intro p e s m args below meth c s₁ B hml hv
  obtain ⟨rfl, hsz, hP, hK, hD0, hE⟩ := hv
  subst hsz
  have hx := B.exec
  have hb := B.bytes
  have hr := B.returns
  have hts := atoms_spec (ws := wsL_model) B.pre
  have hown : s.vm.findClass RL = some m.cls := findClass_of_methodNamed B.named
  have hlocks := B.notSynchronized
  have hl := lv_entry ([.ref (hf 0), .int x, .ref oa]) (n := 4) (Nat.le_of_ble_eq_true rfl)
  rw [lg_entry_eq]
  generalize (lg_sl ([.ref (hf 0), .int x, .ref oa]) ++ List.replicate (4 - (lg_sl ([.ref (hf 0), .int x, .ref oa])).length) Slot.unset).toArray = ls at hl ⊢
  have hl : lv_has ls 4 [(0, .ref (hf 0)), (1, .int x), (2, .ref oa)] := hl
  have htab := vx_table (x := yL_model) B (hts _ List.mem_cons_self)
  have hKc := hK.sub (tys' := [(cI, .int)]) [0] rfl
  have hD := hD0.self (sz := s.heap.size)
  generalize hAe : va_A (wF cI hf ad sd aF ms ck aK aA aB aC aP aV aN n aM aS mm lv ++ [(oa, .inl (cJ, 1, .inr (.inl g0)))]) s.heap.size = A9 at hD hE ⊢
  have hA : ∀ q : Nat, s.heap.size ≤ q → A9 q := fun q h => by rw [← hAe]; exact Or.inr h
  have hS : va_S A9 s.heap s.heap [] := va_S.rf
  refine lv_aload_n hx hb dL_model_0 rfl (lv_at hl 2 rfl) ?_
  refine lv_iconst (v := 0) hx hb dL_model_1 (by decide) ?_
  refine lv_aload_n hx hb dL_model_2 rfl (lv_at hl 0 rfl) ?_
  refine lv_iload_n hx hb dL_model_3 rfl (lv_at hl 1 rfl) ?_
  have hPc := hP.sub (ws' := (wF cI hf ad sd aF ms ck aK aA aB aC aP aV aN n aM aS mm lv)) [0, 1, 2, 3, 4, 5, 6, 7, 8, 9, 10, 11, 12] rfl
  have hDc := hD.sub (ws' := (wF cI hf ad sd aF ms ck aK aA aB aC aP aV aN n aM aS mm lv)) [0, 1, 2, 3, 4, 5, 6, 7, 8, 9, 10, 11, 12] (by decide) rfl
  have hFc := va_free (wc := (wF cI hf ad sd aF ms ck aK aA aB aC aP aV aN n aM aS mm lv)) hD hS hA [0, 1, 2, 3, 4, 5, 6, 7, 8, 9, 10, 11, 12] rfl
  refine vx_calli (vx_runV (C := RX4) (b := hf 0) (As := [.int x]) (rest := [.int 0, .ref oa]) ⟨hx, hb, hml, hown, hts⟩ (ctX4_model0 l dC dI cI hf ad sd aF ms ck aK aA aB aC aP aV aN n aM aS mm lv hl9 sa s.heap.size x hno) (cwV 1 hts (wA_wsV wm_ml_L_28 wm_im_X4_model wm_se_X4_model wm_in_X4 wm_cd_X4_model) rfl rfl rfl (by decide +kernel) ⟨Nat.le_of_ble_eq_true rfl, Nat.le_of_ble_eq_true rfl⟩) ⟨fun a U g mk q => by obtain ⟨q0, q1, qP, qK, qD, qE⟩ := q; exact ⟨q0, q1, qP, va_K.moved (u := U) (U := U.calling g mk a) (Vm.Alike.refl U.vm) qK, qD, tx_E.same (s := U) (U := U.calling g mk a) rfl qE⟩, va_recv (q := (RX4, TX4, 5)) (q0 := 0) hK hP rfl rfl, fun U hU hW => ⟨rfl, by rw [hU], by rw [hU]; exact hPc, va_K.moved hW.alike hKc, hDc.weaken (fun _ _ _ _ => trivial), by rw [hU]; exact (hE.narrow hFc).warm hW⟩⟩ rfl rfl hl.1 rfl (lv_room (Nat.le_of_ble_eq_true rfl)) dL_model_4 ⟨Nat.le_of_ble_eq_true rfl, Nat.le_of_ble_eq_true rfl⟩) hS (fun q _ h => hFc q h) hFc (fun q _ h => hFc q h) (fun E ce q9 u t8 H1 locs ht8 hvm8 hpx hBX hz1 hk1 hS hq9 hce hcl => ?_) (fun r u t8 H1 locs _ _ hF => hF.elim)
  obtain ⟨rfl, hP1⟩ := hBX
  rw [ht8] at hP1
  have hD1 := hDc.self (sz := s.heap.size)
  obtain ⟨hP, hD⟩ := va_join (wr := [(oa, .inl (cJ, 1, .inr (.inl g0)))]) (w1 := [(hf 0, .inr (2, [.ref (ad 0), .ref (sd 0), .ref (hf 1), .int ms, .int ck])), (hf 1, .inl (cI, 2, .inl aF)), (ad 0, .inr (1, [.ref (ad 1), .ref (ad 2), .ref (ad 3), .ref (ad 4), .ref (ad 5), .ref (ad 6), .ref (ad 7), .int (nI n)])), (ad 1, .inl (cI, 12, .inl aK)), (ad 2, .inl (cI, 12, .inl aA)), (ad 3, .inl (cI, 12, .inl aB)), (ad 4, .inl (cI, 12, .inl aC)), (ad 5, .inl (cI, 12, .inl aP)), (ad 6, .inl (cI, 2, .inl aV)), (ad 7, .inl (cI, 12, .inl aN)), (sd 0, .inr (0, [.ref (sd 1), .ref (sd 2), .int (nI mm), .int (nI lv)])), (sd 1, .inl (cI, 20, .inl aM)), (sd 2, .inl (cI, 6, .inl aS))]) hP hD [0, 1, 2, 3, 4, 5, 6, 7, 8, 9, 10, 11, 12] [13] rfl rfl (by decide) (by decide) hk1 hFc hP1 hD1
  have hP := hP.sub (ws' := [(hf 0, .inr (2, [.ref (ad 0), .ref (sd 0), .ref (hf 1), .int ms, .int ck])), (hf 1, .inl (cI, 2, .inl aF)), (ad 0, .inr (1, [.ref (ad 1), .ref (ad 2), .ref (ad 3), .ref (ad 4), .ref (ad 5), .ref (ad 6), .ref (ad 7), .int (nI n)])), (ad 1, .inl (cI, 12, .inl aK)), (ad 2, .inl (cI, 12, .inl aA)), (ad 3, .inl (cI, 12, .inl aB)), (ad 4, .inl (cI, 12, .inl aC)), (ad 5, .inl (cI, 12, .inl aP)), (ad 6, .inl (cI, 2, .inl aV)), (ad 7, .inl (cI, 12, .inl aN)), (sd 0, .inr (0, [.ref (sd 1), .ref (sd 2), .int (nI mm), .int (nI lv)])), (sd 1, .inl (cI, 20, .inl aM)), (sd 2, .inl (cI, 6, .inl aS)), (oa, .inl (cJ, 1, .inr (.inl g0)))]) [1, 2, 3, 4, 5, 6, 7, 8, 9, 10, 11, 12, 13, 0] rfl
  have hD := hD.sub (ws' := [(hf 0, .inr (2, [.ref (ad 0), .ref (sd 0), .ref (hf 1), .int ms, .int ck])), (hf 1, .inl (cI, 2, .inl aF)), (ad 0, .inr (1, [.ref (ad 1), .ref (ad 2), .ref (ad 3), .ref (ad 4), .ref (ad 5), .ref (ad 6), .ref (ad 7), .int (nI n)])), (ad 1, .inl (cI, 12, .inl aK)), (ad 2, .inl (cI, 12, .inl aA)), (ad 3, .inl (cI, 12, .inl aB)), (ad 4, .inl (cI, 12, .inl aC)), (ad 5, .inl (cI, 12, .inl aP)), (ad 6, .inl (cI, 2, .inl aV)), (ad 7, .inl (cI, 12, .inl aN)), (sd 0, .inr (0, [.ref (sd 1), .ref (sd 2), .int (nI mm), .int (nI lv)])), (sd 1, .inl (cI, 20, .inl aM)), (sd 2, .inl (cI, 6, .inl aS)), (oa, .inl (cJ, 1, .inr (.inl g0)))]) [1, 2, 3, 4, 5, 6, 7, 8, 9, 10, 11, 12, 13, 0] (by decide) rfl
  refine vx_catch (own := RL) (name := "java/lang/IllegalArgumentException") hown [] ⟨0, 9, 12, 13⟩ [⟨0, 9, 15, 31⟩] (by rw [htab]; rfl) (fun z hz => nomatch hz) (by decide) (by decide) (hts _ (List.mem_cons_of_mem _ wm_cl_L_13)) (va_Nw.use rfl hE.2.1.1) hq9 hce hcl ?_
  refine lv_astore_n (lv' := [(3, .ref q9), (0, .ref (hf 0)), (1, .int x), (2, .ref oa)]) hx hb dL_model_12 rfl hl (by decide) rfl (fun ls hl => ?_)
  refine lv_iconst (v := 1) hx hb dL_model_13 (by decide) ?_
  exact W.iret (v := 1) hx hb hr (fun t9 ht9 hW9 => ⟨⟨1, (), rfl, rfl, by rw [ht9]; exact hP, va_K.moved hW9.alike hK, hD⟩, hS.F ht9⟩) hS.2.2 dL_model_14
set_option maxHeartbeats 4000000 in
set_option maxRecDepth 100000 in
theorem ctL_model1 (hl9 : l.stackTraces = false) (sa : Nat → Nat) (sz : Nat) (j : Nat) (hj : j < 2) : Met l yL_model wsL_model ({ frames := 7, cells := 1, slots := 6, locals := 121 }) (va_Pc [.ref (hf 0), .int (nI j), .ref oa] (fun U => U.heap.size = sz ∧ va_P (dC, dI) vwCl (wF cI hf ad sd aF 0 ck aK aA aB aC aP aV aN n aM aS mm lv ++ [(oa, .inl (cJ, 1, .inr (.inl g0)))]) U.heap ∧ va_K (dC, dI) vwCl [(cI, .int), (cJ, .long)] U ∧ va_D (fun _ => True) (wF cI hf ad sd aF 0 ck aK aA aB aC aP aV aN n aM aS mm lv ++ [(oa, .inl (cJ, 1, .inr (.inl g0)))]) ∧ tx_E (va_A (wF cI hf ad sd aF 0 ck aK aA aB aC aP aV aN n aM aS mm lv ++ [(oa, .inl (cJ, 1, .inr (.inl g0)))]) sz) sa U U.heap)) (va_Qi (fun r _ => r = 2) (fun (u : Unit) t9 => va_P (dC, dI) vwCl (wF cI hf ad sd aF 0 ck aK aA aB aC aP aV aN n aM aS mm lv ++ [(oa, .inl (cJ, 1, .inr (.inl g0)))]) t9.heap ∧ va_K (dC, dI) vwCl [(cI, .int), (cJ, .long)] t9 ∧ va_D (va_A (wF cI hf ad sd aF 0 ck aK aA aB aC aP aV aN n aM aS mm lv ++ [(oa, .inl (cJ, 1, .inr (.inl g0)))]) sz) (wF cI hf ad sd aF 0 ck aK aA aB aC aP aV aN n aM aS mm lv ++ [(oa, .inl (cJ, 1, .inr (.inl g0)))])) (va_A (wF cI hf ad sd aF 0 ck aK aA aB aC aP aV aN n aM aS mm lv ++ [(oa, .inl (cJ, 1, .inr (.inl g0)))]) sz)) 1 6 (va_A (wF cI hf ad sd aF 0 ck aK aA aB aC aP aV aN n aM aS mm lv ++ [(oa, .inl (cJ, 1, .inr (.inl g0)))]) sz) := by
  refine va_MetW (cc := cL_model) (maxL := 4) (ret := (some .int)) (by decide) rfl ?_
  intro p e s m args below meth c s₁ B hml hv
  obtain ⟨rfl, hsz, hP, hK, hD0, hE⟩ := hv
  subst hsz
  have hx := B.exec
  have hb := B.bytes
  have hr := B.returns
  have hts := atoms_spec (ws := wsL_model) B.pre
  have hown : s.vm.findClass RL = some m.cls := findClass_of_methodNamed B.named
  have hlocks := B.notSynchronized
  have hl := lv_entry ([.ref (hf 0), .int (nI j), .ref oa]) (n := 4) (Nat.le_of_ble_eq_true rfl)
  rw [lg_entry_eq]
  generalize (lg_sl ([.ref (hf 0), .int (nI j), .ref oa]) ++ List.replicate (4 - (lg_sl ([.ref (hf 0), .int (nI j), .ref oa])).length) Slot.unset).toArray = ls at hl ⊢
  have hl : lv_has ls 4 [(0, .ref (hf 0)), (1, .int (nI j)), (2, .ref oa)] := hl
  have htab := vx_table (x := yL_model) B (hts _ List.mem_cons_self)
  have hKc := hK.sub (tys' := [(cI, .int)]) [0] rfl
  have hD := hD0.self (sz := s.heap.size)
  generalize hAe : va_A (wF cI hf ad sd aF 0 ck aK aA aB aC aP aV aN n aM aS mm lv ++ [(oa, .inl (cJ, 1, .inr (.inl g0)))]) s.heap.size = A9 at hD hE ⊢
  have hA : ∀ q : Nat, s.heap.size ≤ q → A9 q := fun q h => by rw [← hAe]; exact Or.inr h
  have hS : va_S A9 s.heap s.heap [] := va_S.rf
  refine lv_aload_n hx hb dL_model_0 rfl (lv_at hl 2 rfl) ?_
  refine lv_iconst (v := 0) hx hb dL_model_1 (by decide) ?_
  refine lv_aload_n hx hb dL_model_2 rfl (lv_at hl 0 rfl) ?_
  refine lv_iload_n hx hb dL_model_3 rfl (lv_at hl 1 rfl) ?_
  have hPc := hP.sub (ws' := (wF cI hf ad sd aF 0 ck aK aA aB aC aP aV aN n aM aS mm lv)) [0, 1, 2, 3, 4, 5, 6, 7, 8, 9, 10, 11, 12] rfl
  have hDc := hD.sub (ws' := (wF cI hf ad sd aF 0 ck aK aA aB aC aP aV aN n aM aS mm lv)) [0, 1, 2, 3, 4, 5, 6, 7, 8, 9, 10, 11, 12] (by decide) rfl
  have hFc := va_free (wc := (wF cI hf ad sd aF 0 ck aK aA aB aC aP aV aN n aM aS mm lv)) hD hS hA [0, 1, 2, 3, 4, 5, 6, 7, 8, 9, 10, 11, 12] rfl
  refine vx_calli (vx_runV (C := RX4) (b := hf 0) (As := [.int (nI j)]) (rest := [.int 0, .ref oa]) ⟨hx, hb, hml, hown, hts⟩ (ctX4_model1 l dC dI cI hf ad sd aF ck aK aA aB aC aP aV aN n aM aS mm lv hl9 sa s.heap.size j hj) (cwV 1 hts (wA_wsV wm_ml_L_28 wm_im_X4_model wm_se_X4_model wm_in_X4 wm_cd_X4_model) rfl rfl rfl (by decide +kernel) ⟨Nat.le_of_ble_eq_true rfl, Nat.le_of_ble_eq_true rfl⟩) ⟨fun a U g mk q => by obtain ⟨q0, q1, qP, qK, qD, qE⟩ := q; exact ⟨q0, q1, qP, va_K.moved (u := U) (U := U.calling g mk a) (Vm.Alike.refl U.vm) qK, qD, tx_E.same (s := U) (U := U.calling g mk a) rfl qE⟩, va_recv (q := (RX4, TX4, 5)) (q0 := 0) hK hP rfl rfl, fun U hU hW => ⟨rfl, by rw [hU], by rw [hU]; exact hPc, va_K.moved hW.alike hKc, hDc.weaken (fun _ _ _ _ => trivial), by rw [hU]; exact (hE.narrow hFc).warm hW⟩⟩ rfl rfl hl.1 rfl (lv_room (Nat.le_of_ble_eq_true rfl)) dL_model_4 ⟨Nat.le_of_ble_eq_true rfl, Nat.le_of_ble_eq_true rfl⟩) hS (fun q _ h => hFc q h) hFc (fun q _ h => hFc q h) (fun E ce q9 u t8 H1 locs ht8 hvm8 hpx hBX hz1 hk1 hS hq9 hce hcl => ?_) (fun r u t8 H1 locs _ _ hF => hF.elim)
  obtain ⟨rfl, hP1⟩ := hBX
  rw [ht8] at hP1
  have hD1 := hDc.self (sz := s.heap.size)
  obtain ⟨hP, hD⟩ := va_join (wr := [(oa, .inl (cJ, 1, .inr (.inl g0)))]) (w1 := [(hf 0, .inr (2, [.ref (ad 0), .ref (sd 0), .ref (hf 1), .int 0, .int ck])), (hf 1, .inl (cI, 2, .inl aF)), (ad 0, .inr (1, [.ref (ad 1), .ref (ad 2), .ref (ad 3), .ref (ad 4), .ref (ad 5), .ref (ad 6), .ref (ad 7), .int (nI n)])), (ad 1, .inl (cI, 12, .inl aK)), (ad 2, .inl (cI, 12, .inl aA)), (ad 3, .inl (cI, 12, .inl aB)), (ad 4, .inl (cI, 12, .inl aC)), (ad 5, .inl (cI, 12, .inl aP)), (ad 6, .inl (cI, 2, .inl aV)), (ad 7, .inl (cI, 12, .inl aN)), (sd 0, .inr (0, [.ref (sd 1), .ref (sd 2), .int (nI mm), .int (nI lv)])), (sd 1, .inl (cI, 20, .inl aM)), (sd 2, .inl (cI, 6, .inl aS))]) hP hD [0, 1, 2, 3, 4, 5, 6, 7, 8, 9, 10, 11, 12] [13] rfl rfl (by decide) (by decide) hk1 hFc hP1 hD1
  have hP := hP.sub (ws' := [(hf 0, .inr (2, [.ref (ad 0), .ref (sd 0), .ref (hf 1), .int 0, .int ck])), (hf 1, .inl (cI, 2, .inl aF)), (ad 0, .inr (1, [.ref (ad 1), .ref (ad 2), .ref (ad 3), .ref (ad 4), .ref (ad 5), .ref (ad 6), .ref (ad 7), .int (nI n)])), (ad 1, .inl (cI, 12, .inl aK)), (ad 2, .inl (cI, 12, .inl aA)), (ad 3, .inl (cI, 12, .inl aB)), (ad 4, .inl (cI, 12, .inl aC)), (ad 5, .inl (cI, 12, .inl aP)), (ad 6, .inl (cI, 2, .inl aV)), (ad 7, .inl (cI, 12, .inl aN)), (sd 0, .inr (0, [.ref (sd 1), .ref (sd 2), .int (nI mm), .int (nI lv)])), (sd 1, .inl (cI, 20, .inl aM)), (sd 2, .inl (cI, 6, .inl aS)), (oa, .inl (cJ, 1, .inr (.inl g0)))]) [1, 2, 3, 4, 5, 6, 7, 8, 9, 10, 11, 12, 13, 0] rfl
  have hD := hD.sub (ws' := [(hf 0, .inr (2, [.ref (ad 0), .ref (sd 0), .ref (hf 1), .int 0, .int ck])), (hf 1, .inl (cI, 2, .inl aF)), (ad 0, .inr (1, [.ref (ad 1), .ref (ad 2), .ref (ad 3), .ref (ad 4), .ref (ad 5), .ref (ad 6), .ref (ad 7), .int (nI n)])), (ad 1, .inl (cI, 12, .inl aK)), (ad 2, .inl (cI, 12, .inl aA)), (ad 3, .inl (cI, 12, .inl aB)), (ad 4, .inl (cI, 12, .inl aC)), (ad 5, .inl (cI, 12, .inl aP)), (ad 6, .inl (cI, 2, .inl aV)), (ad 7, .inl (cI, 12, .inl aN)), (sd 0, .inr (0, [.ref (sd 1), .ref (sd 2), .int (nI mm), .int (nI lv)])), (sd 1, .inl (cI, 20, .inl aM)), (sd 2, .inl (cI, 6, .inl aS)), (oa, .inl (cJ, 1, .inr (.inl g0)))]) [1, 2, 3, 4, 5, 6, 7, 8, 9, 10, 11, 12, 13, 0] (by decide) rfl
  refine vx_catch (own := RL) (name := "java/util/NoSuchElementException") hown [⟨0, 9, 12, 13⟩] ⟨0, 9, 15, 31⟩ [] (by rw [htab]; rfl) (fun z hz => by rcases List.mem_singleton.mp hz with rfl; exact Or.inr ⟨by decide, "java/lang/IllegalArgumentException", hts _ (List.mem_cons_of_mem _ wm_cl_L_13), hE.2.2.1.2⟩) (by decide) (by decide) (hts _ (List.mem_cons_of_mem _ wm_cl_L_31)) (va_Nw.use rfl hE.2.1.2.2.1) hq9 hce hcl ?_
  refine lv_astore_n (lv' := [(3, .ref q9), (0, .ref (hf 0)), (1, .int (nI j)), (2, .ref oa)]) hx hb dL_model_15 rfl hl (by decide) rfl (fun ls hl => ?_)
  refine lv_iconst (v := 2) hx hb dL_model_16 (by decide) ?_
  exact W.iret (v := 2) hx hb hr (fun t9 ht9 hW9 => ⟨⟨2, (), rfl, rfl, by rw [ht9]; exact hP, va_K.moved hW9.alike hK, hD⟩, hS.F ht9⟩) hS.2.2 dL_model_17
set_option maxHeartbeats 4000000 in
set_option maxRecDepth 100000 in
theorem ctL_model2 (sz : Nat) (j : Nat) (hj : j < 2) : Met l yL_model wsL_model ({ frames := 7, cells := 0, slots := 0, locals := 121 }) (va_Pc [.ref (hf 0), .int (nI j), .ref oa] (fun U => U.heap.size = sz ∧ va_P (dC, dI) vwCl (wF cI hf ad sd aF 1 ck aK aA aB aC aP aV aN n aM aS mm lv ++ [(oa, .inl (cJ, 1, .inr (.inl g0)))]) U.heap ∧ va_K (dC, dI) vwCl [(cI, .int), (cJ, .long)] U ∧ va_D (fun _ => True) (wF cI hf ad sd aF 1 ck aK aA aB aC aP aV aN n aM aS mm lv ++ [(oa, .inl (cJ, 1, .inr (.inl g0)))]))) (va_Qi (fun r _ => r = 0) (fun (u : Unit) t9 => va_P (dC, dI) vwCl (wF cI hf ad sd aF 1 ck aK aA aB aC aP aV aN n aM aS mm lv ++ [(oa, .inl (cJ, 1, .inr (.inl (vp_updL g0 0 (aF j).toInt64))))]) t9.heap ∧ va_K (dC, dI) vwCl [(cI, .int), (cJ, .long)] t9 ∧ va_D (va_A (wF cI hf ad sd aF 1 ck aK aA aB aC aP aV aN n aM aS mm lv ++ [(oa, .inl (cJ, 1, .inr (.inl g0)))]) sz) (wF cI hf ad sd aF 1 ck aK aA aB aC aP aV aN n aM aS mm lv ++ [(oa, .inl (cJ, 1, .inr (.inl (vp_updL g0 0 (aF j).toInt64))))])) (va_A (wF cI hf ad sd aF 1 ck aK aA aB aC aP aV aN n aM aS mm lv ++ [(oa, .inl (cJ, 1, .inr (.inl g0)))]) sz)) 0 0 (va_A (wF cI hf ad sd aF 1 ck aK aA aB aC aP aV aN n aM aS mm lv ++ [(oa, .inl (cJ, 1, .inr (.inl g0)))]) sz) := by
  refine va_MetW (cc := cL_model) (maxL := 4) (ret := (some .int)) (by decide) rfl ?_
  intro p e s m args below meth c s₁ B hml hv
  obtain ⟨rfl, hsz, hP, hK, hD0⟩ := hv
  subst hsz
  have hx := B.exec
  have hb := B.bytes
  have hr := B.returns
  have hts := atoms_spec (ws := wsL_model) B.pre
  have hown : s.vm.findClass RL = some m.cls := findClass_of_methodNamed B.named
  have hlocks := B.notSynchronized
  have hl := lv_entry ([.ref (hf 0), .int (nI j), .ref oa]) (n := 4) (Nat.le_of_ble_eq_true rfl)
  rw [lg_entry_eq]
  generalize (lg_sl ([.ref (hf 0), .int (nI j), .ref oa]) ++ List.replicate (4 - (lg_sl ([.ref (hf 0), .int (nI j), .ref oa])).length) Slot.unset).toArray = ls at hl ⊢
  have hl : lv_has ls 4 [(0, .ref (hf 0)), (1, .int (nI j)), (2, .ref oa)] := hl
  have hKc := hK.sub (tys' := [(cI, .int)]) [0] rfl
  have hD := hD0.self (sz := s.heap.size)
  generalize hAe : va_A (wF cI hf ad sd aF 1 ck aK aA aB aC aP aV aN n aM aS mm lv ++ [(oa, .inl (cJ, 1, .inr (.inl g0)))]) s.heap.size = A9 at hD ⊢
  have hA : ∀ q : Nat, s.heap.size ≤ q → A9 q := fun q h => by rw [← hAe]; exact Or.inr h
  have hS : va_S A9 s.heap s.heap [] := va_S.rf
  refine lv_aload_n hx hb dL_model_0 rfl (lv_at hl 2 rfl) ?_
  refine lv_iconst (v := 0) hx hb dL_model_1 (by decide) ?_
  refine lv_aload_n hx hb dL_model_2 rfl (lv_at hl 0 rfl) ?_
  refine lv_iload_n hx hb dL_model_3 rfl (lv_at hl 1 rfl) ?_
  have hPc := hP.sub (ws' := (wF cI hf ad sd aF 1 ck aK aA aB aC aP aV aN n aM aS mm lv)) [0, 1, 2, 3, 4, 5, 6, 7, 8, 9, 10, 11, 12] rfl
  have hDc := hD.sub (ws' := (wF cI hf ad sd aF 1 ck aK aA aB aC aP aV aN n aM aS mm lv)) [0, 1, 2, 3, 4, 5, 6, 7, 8, 9, 10, 11, 12] (by decide) rfl
  have hFc := va_free (wc := (wF cI hf ad sd aF 1 ck aK aA aB aC aP aV aN n aM aS mm lv)) hD hS hA [0, 1, 2, 3, 4, 5, 6, 7, 8, 9, 10, 11, 12] rfl
  refine va_calli (va_runV (C := RX4) (b := hf 0) (As := [.int (nI j)]) (rest := [.int 0, .ref oa]) ⟨hx, hb, hml, hown, hts⟩ (ctX4_model2 l dC dI cI hf ad sd aF ck aK aA aB aC aP aV aN n aM aS mm lv s.heap.size j hj) (cwV 1 hts (wA_wsV wm_ml_L_28 wm_im_X4_model wm_se_X4_model wm_in_X4 wm_cd_X4_model) rfl rfl rfl (by decide +kernel) ⟨Nat.le_of_ble_eq_true rfl, Nat.le_of_ble_eq_true rfl⟩) ⟨fun a U g mk q => by obtain ⟨q0, q1, qP, qK, qD⟩ := q; exact ⟨q0, q1, qP, va_K.moved (u := U) (U := U.calling g mk a) (Vm.Alike.refl U.vm) qK, qD⟩, va_recv (q := (RX4, TX4, 5)) (q0 := 0) hK hP rfl rfl, fun U hU hW => ⟨rfl, by rw [hU], by rw [hU]; exact hPc, va_K.moved hW.alike hKc, hDc.weaken (fun _ _ _ _ => trivial)⟩⟩ rfl rfl hl.1 rfl (lv_room (Nat.le_of_ble_eq_true rfl)) dL_model_4 ⟨Nat.zero_le _, Nat.zero_le _⟩) hS (fun q _ h => hFc q h) hFc (fun r1 u t8 H1 locs ht8 hvm8 er1 hB hz1 hk1 hS => ?_)
  obtain ⟨hP1, hK1, hD1⟩ := hB
  rw [ht8] at hP1
  obtain ⟨hP, hD⟩ := va_join (wr := [(oa, .inl (cJ, 1, .inr (.inl g0)))]) (w1 := [(hf 0, .inr (2, [.ref (ad 0), .ref (sd 0), .ref (hf 1), .int 1, .int ck])), (hf 1, .inl (cI, 2, .inl aF)), (ad 0, .inr (1, [.ref (ad 1), .ref (ad 2), .ref (ad 3), .ref (ad 4), .ref (ad 5), .ref (ad 6), .ref (ad 7), .int (nI n)])), (ad 1, .inl (cI, 12, .inl aK)), (ad 2, .inl (cI, 12, .inl aA)), (ad 3, .inl (cI, 12, .inl aB)), (ad 4, .inl (cI, 12, .inl aC)), (ad 5, .inl (cI, 12, .inl aP)), (ad 6, .inl (cI, 2, .inl aV)), (ad 7, .inl (cI, 12, .inl aN)), (sd 0, .inr (0, [.ref (sd 1), .ref (sd 2), .int (nI mm), .int (nI lv)])), (sd 1, .inl (cI, 20, .inl aM)), (sd 2, .inl (cI, 6, .inl aS))]) hP hD [0, 1, 2, 3, 4, 5, 6, 7, 8, 9, 10, 11, 12] [13] rfl rfl (by decide) (by decide) hk1 hFc hP1 hD1
  have hP := hP.sub (ws' := [(hf 0, .inr (2, [.ref (ad 0), .ref (sd 0), .ref (hf 1), .int 1, .int ck])), (hf 1, .inl (cI, 2, .inl aF)), (ad 0, .inr (1, [.ref (ad 1), .ref (ad 2), .ref (ad 3), .ref (ad 4), .ref (ad 5), .ref (ad 6), .ref (ad 7), .int (nI n)])), (ad 1, .inl (cI, 12, .inl aK)), (ad 2, .inl (cI, 12, .inl aA)), (ad 3, .inl (cI, 12, .inl aB)), (ad 4, .inl (cI, 12, .inl aC)), (ad 5, .inl (cI, 12, .inl aP)), (ad 6, .inl (cI, 2, .inl aV)), (ad 7, .inl (cI, 12, .inl aN)), (sd 0, .inr (0, [.ref (sd 1), .ref (sd 2), .int (nI mm), .int (nI lv)])), (sd 1, .inl (cI, 20, .inl aM)), (sd 2, .inl (cI, 6, .inl aS)), (oa, .inl (cJ, 1, .inr (.inl g0)))]) [1, 2, 3, 4, 5, 6, 7, 8, 9, 10, 11, 12, 13, 0] rfl
  have hD := hD.sub (ws' := [(hf 0, .inr (2, [.ref (ad 0), .ref (sd 0), .ref (hf 1), .int 1, .int ck])), (hf 1, .inl (cI, 2, .inl aF)), (ad 0, .inr (1, [.ref (ad 1), .ref (ad 2), .ref (ad 3), .ref (ad 4), .ref (ad 5), .ref (ad 6), .ref (ad 7), .int (nI n)])), (ad 1, .inl (cI, 12, .inl aK)), (ad 2, .inl (cI, 12, .inl aA)), (ad 3, .inl (cI, 12, .inl aB)), (ad 4, .inl (cI, 12, .inl aC)), (ad 5, .inl (cI, 12, .inl aP)), (ad 6, .inl (cI, 2, .inl aV)), (ad 7, .inl (cI, 12, .inl aN)), (sd 0, .inr (0, [.ref (sd 1), .ref (sd 2), .int (nI mm), .int (nI lv)])), (sd 1, .inl (cI, 20, .inl aM)), (sd 2, .inl (cI, 6, .inl aS)), (oa, .inl (cJ, 1, .inr (.inl g0)))]) [1, 2, 3, 4, 5, 6, 7, 8, 9, 10, 11, 12, 13, 0] (by decide) rfl
  generalize H1 = H at hP hS ⊢
  subst er1
  refine lv_i2l (v := (aF j).toInt64) hx hb dL_model_7 rfl ?_
  refine va_last (i := 0) hx hb hK hP hD hS 13 1 rfl rfl xo_in dL_model_8 (fun H locs hP hD hS => ?_)
  have hP : va_P (dC, dI) vwCl [(hf 0, .inr (2, [.ref (ad 0), .ref (sd 0), .ref (hf 1), .int 1, .int ck])), (hf 1, .inl (cI, 2, .inl aF)), (ad 0, .inr (1, [.ref (ad 1), .ref (ad 2), .ref (ad 3), .ref (ad 4), .ref (ad 5), .ref (ad 6), .ref (ad 7), .int (nI n)])), (ad 1, .inl (cI, 12, .inl aK)), (ad 2, .inl (cI, 12, .inl aA)), (ad 3, .inl (cI, 12, .inl aB)), (ad 4, .inl (cI, 12, .inl aC)), (ad 5, .inl (cI, 12, .inl aP)), (ad 6, .inl (cI, 2, .inl aV)), (ad 7, .inl (cI, 12, .inl aN)), (sd 0, .inr (0, [.ref (sd 1), .ref (sd 2), .int (nI mm), .int (nI lv)])), (sd 1, .inl (cI, 20, .inl aM)), (sd 2, .inl (cI, 6, .inl aS)), (oa, .inl (cJ, 1, .inr (.inl (vp_updL g0 0 ((aF j).toInt64)))))] H := hP
  have hD : va_D A9 [(hf 0, .inr (2, [.ref (ad 0), .ref (sd 0), .ref (hf 1), .int 1, .int ck])), (hf 1, .inl (cI, 2, .inl aF)), (ad 0, .inr (1, [.ref (ad 1), .ref (ad 2), .ref (ad 3), .ref (ad 4), .ref (ad 5), .ref (ad 6), .ref (ad 7), .int (nI n)])), (ad 1, .inl (cI, 12, .inl aK)), (ad 2, .inl (cI, 12, .inl aA)), (ad 3, .inl (cI, 12, .inl aB)), (ad 4, .inl (cI, 12, .inl aC)), (ad 5, .inl (cI, 12, .inl aP)), (ad 6, .inl (cI, 2, .inl aV)), (ad 7, .inl (cI, 12, .inl aN)), (sd 0, .inr (0, [.ref (sd 1), .ref (sd 2), .int (nI mm), .int (nI lv)])), (sd 1, .inl (cI, 20, .inl aM)), (sd 2, .inl (cI, 6, .inl aS)), (oa, .inl (cJ, 1, .inr (.inl (vp_updL g0 0 ((aF j).toInt64)))))] := hD
  refine lv_goto (tgt := 18) hx hb dL_model_9 (by decide) ?_
  refine lv_iconst (v := 0) hx hb dL_model_18 (by decide) ?_
  exact W.iret (v := 0) hx hb hr (fun t9 ht9 hW9 => ⟨⟨0, (), rfl, rfl, by rw [ht9]; exact hP, va_K.moved hW9.alike hK, hD⟩, hS.F ht9⟩) hS.2.2 dL_model_19
set_option maxHeartbeats 4000000 in
set_option maxRecDepth 100000 in
theorem ctL_value0 (hl9 : l.stackTraces = false) (sa : Nat → Nat) (sz : Nat) (hn : n ≤ 12) (z : Int32) (hno : ¬ ∃ j, j < n ∧ z = nI j) : Met l yL_value wsL_value ({ frames := 7, cells := 1, slots := 6, locals := 165 }) (va_Pc [.ref (hf 0), .int z, .ref oa] (fun U => U.heap.size = sz ∧ va_P (dC, dI) vwCl (wF cI hf ad sd aF ms ck aK aA aB aC aP aV aN n aM aS mm lv ++ [(oa, .inl (cJ, 1, .inr (.inl g0)))]) U.heap ∧ va_K (dC, dI) vwCl [(cI, .int), (cJ, .long)] U ∧ va_D (fun _ => True) (wF cI hf ad sd aF ms ck aK aA aB aC aP aV aN n aM aS mm lv ++ [(oa, .inl (cJ, 1, .inr (.inl g0)))]) ∧ tx_E (va_A (wF cI hf ad sd aF ms ck aK aA aB aC aP aV aN n aM aS mm lv ++ [(oa, .inl (cJ, 1, .inr (.inl g0)))]) sz) sa U U.heap)) (va_Qi (fun r _ => r = 1) (fun (u : Unit) t9 => va_P (dC, dI) vwCl (wF cI hf ad sd aF ms ck aK aA aB aC aP aV aN n aM aS mm lv ++ [(oa, .inl (cJ, 1, .inr (.inl g0)))]) t9.heap ∧ va_K (dC, dI) vwCl [(cI, .int), (cJ, .long)] t9 ∧ va_D (va_A (wF cI hf ad sd aF ms ck aK aA aB aC aP aV aN n aM aS mm lv ++ [(oa, .inl (cJ, 1, .inr (.inl g0)))]) sz) (wF cI hf ad sd aF ms ck aK aA aB aC aP aV aN n aM aS mm lv ++ [(oa, .inl (cJ, 1, .inr (.inl g0)))])) (va_A (wF cI hf ad sd aF ms ck aK aA aB aC aP aV aN n aM aS mm lv ++ [(oa, .inl (cJ, 1, .inr (.inl g0)))]) sz)) 1 6 (va_A (wF cI hf ad sd aF ms ck aK aA aB aC aP aV aN n aM aS mm lv ++ [(oa, .inl (cJ, 1, .inr (.inl g0)))]) sz) := by
  refine va_MetW (cc := cL_value) (maxL := 4) (ret := (some .int)) (by decide) rfl ?_
  intro p e s m args below meth c s₁ B hml hv
  obtain ⟨rfl, hsz, hP, hK, hD0, hE⟩ := hv
  subst hsz
  have hx := B.exec
  have hb := B.bytes
  have hr := B.returns
  have hts := atoms_spec (ws := wsL_value) B.pre
  have hown : s.vm.findClass RL = some m.cls := findClass_of_methodNamed B.named
  have hlocks := B.notSynchronized
  have hl := lv_entry ([.ref (hf 0), .int z, .ref oa]) (n := 4) (Nat.le_of_ble_eq_true rfl)
  rw [lg_entry_eq]
  generalize (lg_sl ([.ref (hf 0), .int z, .ref oa]) ++ List.replicate (4 - (lg_sl ([.ref (hf 0), .int z, .ref oa])).length) Slot.unset).toArray = ls at hl ⊢
  have hl : lv_has ls 4 [(0, .ref (hf 0)), (1, .int z), (2, .ref oa)] := hl
  have htab := vx_table (x := yL_value) B (hts _ List.mem_cons_self)
  have hKc := hK.sub (tys' := [(cI, .int)]) [0] rfl
  have hD := hD0.self (sz := s.heap.size)
  generalize hAe : va_A (wF cI hf ad sd aF ms ck aK aA aB aC aP aV aN n aM aS mm lv ++ [(oa, .inl (cJ, 1, .inr (.inl g0)))]) s.heap.size = A9 at hD hE ⊢
  have hA : ∀ q : Nat, s.heap.size ≤ q → A9 q := fun q h => by rw [← hAe]; exact Or.inr h
  have hS : va_S A9 s.heap s.heap [] := va_S.rf
  refine lv_aload_n hx hb dL_value_0 rfl (lv_at hl 2 rfl) ?_
  refine lv_iconst (v := 0) hx hb dL_value_1 (by decide) ?_
  refine lv_aload_n hx hb dL_value_2 rfl (lv_at hl 0 rfl) ?_
  refine lv_iload_n hx hb dL_value_3 rfl (lv_at hl 1 rfl) ?_
  have hPc := hP.sub (ws' := (wF cI hf ad sd aF ms ck aK aA aB aC aP aV aN n aM aS mm lv)) [0, 1, 2, 3, 4, 5, 6, 7, 8, 9, 10, 11, 12] rfl
  have hDc := hD.sub (ws' := (wF cI hf ad sd aF ms ck aK aA aB aC aP aV aN n aM aS mm lv)) [0, 1, 2, 3, 4, 5, 6, 7, 8, 9, 10, 11, 12] (by decide) rfl
  have hFc := va_free (wc := (wF cI hf ad sd aF ms ck aK aA aB aC aP aV aN n aM aS mm lv)) hD hS hA [0, 1, 2, 3, 4, 5, 6, 7, 8, 9, 10, 11, 12] rfl
  refine vx_calli (vx_runV (C := RX4) (b := hf 0) (As := [.int z]) (rest := [.int 0, .ref oa]) ⟨hx, hb, hml, hown, hts⟩ (ctX4_value0 l dC dI cI hf ad sd aF ms ck aK aA aB aC aP aV aN n aM aS mm lv hl9 sa s.heap.size hn z hno) (cwV 1 hts (wA_wsV wm_ml_L_33 wm_im_X4_value wm_se_X4_value wm_in_X4 wm_cd_X4_value) rfl rfl rfl (by decide +kernel) ⟨Nat.le_of_ble_eq_true rfl, Nat.le_of_ble_eq_true rfl⟩) ⟨fun a U g mk q => by obtain ⟨q0, q1, qP, qK, qD, qE⟩ := q; exact ⟨q0, q1, qP, va_K.moved (u := U) (U := U.calling g mk a) (Vm.Alike.refl U.vm) qK, qD, tx_E.same (s := U) (U := U.calling g mk a) rfl qE⟩, va_recv (q := (RX4, TX4, 5)) (q0 := 0) hK hP rfl rfl, fun U hU hW => ⟨rfl, by rw [hU], by rw [hU]; exact hPc, va_K.moved hW.alike hKc, hDc.weaken (fun _ _ _ _ => trivial), by rw [hU]; exact (hE.narrow hFc).warm hW⟩⟩ rfl rfl hl.1 rfl (lv_room (Nat.le_of_ble_eq_true rfl)) dL_value_4 ⟨Nat.le_of_ble_eq_true rfl, Nat.le_of_ble_eq_true rfl⟩) hS (fun q _ h => hFc q h) hFc (fun q _ h => hFc q h) (fun E ce q9 u t8 H1 locs ht8 hvm8 hpx hBX hz1 hk1 hS hq9 hce hcl => ?_) (fun r u t8 H1 locs _ _ hF => hF.elim)
  obtain ⟨rfl, hP1⟩ := hBX
  rw [ht8] at hP1
  have hD1 := hDc.self (sz := s.heap.size)
  obtain ⟨hP, hD⟩ := va_join (wr := [(oa, .inl (cJ, 1, .inr (.inl g0)))]) (w1 := [(hf 0, .inr (2, [.ref (ad 0), .ref (sd 0), .ref (hf 1), .int ms, .int ck])), (hf 1, .inl (cI, 2, .inl aF)), (ad 0, .inr (1, [.ref (ad 1), .ref (ad 2), .ref (ad 3), .ref (ad 4), .ref (ad 5), .ref (ad 6), .ref (ad 7), .int (nI n)])), (ad 1, .inl (cI, 12, .inl aK)), (ad 2, .inl (cI, 12, .inl aA)), (ad 3, .inl (cI, 12, .inl aB)), (ad 4, .inl (cI, 12, .inl aC)), (ad 5, .inl (cI, 12, .inl aP)), (ad 6, .inl (cI, 2, .inl aV)), (ad 7, .inl (cI, 12, .inl aN)), (sd 0, .inr (0, [.ref (sd 1), .ref (sd 2), .int (nI mm), .int (nI lv)])), (sd 1, .inl (cI, 20, .inl aM)), (sd 2, .inl (cI, 6, .inl aS))]) hP hD [0, 1, 2, 3, 4, 5, 6, 7, 8, 9, 10, 11, 12] [13] rfl rfl (by decide) (by decide) hk1 hFc hP1 hD1
  have hP := hP.sub (ws' := [(hf 0, .inr (2, [.ref (ad 0), .ref (sd 0), .ref (hf 1), .int ms, .int ck])), (hf 1, .inl (cI, 2, .inl aF)), (ad 0, .inr (1, [.ref (ad 1), .ref (ad 2), .ref (ad 3), .ref (ad 4), .ref (ad 5), .ref (ad 6), .ref (ad 7), .int (nI n)])), (ad 1, .inl (cI, 12, .inl aK)), (ad 2, .inl (cI, 12, .inl aA)), (ad 3, .inl (cI, 12, .inl aB)), (ad 4, .inl (cI, 12, .inl aC)), (ad 5, .inl (cI, 12, .inl aP)), (ad 6, .inl (cI, 2, .inl aV)), (ad 7, .inl (cI, 12, .inl aN)), (sd 0, .inr (0, [.ref (sd 1), .ref (sd 2), .int (nI mm), .int (nI lv)])), (sd 1, .inl (cI, 20, .inl aM)), (sd 2, .inl (cI, 6, .inl aS)), (oa, .inl (cJ, 1, .inr (.inl g0)))]) [1, 2, 3, 4, 5, 6, 7, 8, 9, 10, 11, 12, 13, 0] rfl
  have hD := hD.sub (ws' := [(hf 0, .inr (2, [.ref (ad 0), .ref (sd 0), .ref (hf 1), .int ms, .int ck])), (hf 1, .inl (cI, 2, .inl aF)), (ad 0, .inr (1, [.ref (ad 1), .ref (ad 2), .ref (ad 3), .ref (ad 4), .ref (ad 5), .ref (ad 6), .ref (ad 7), .int (nI n)])), (ad 1, .inl (cI, 12, .inl aK)), (ad 2, .inl (cI, 12, .inl aA)), (ad 3, .inl (cI, 12, .inl aB)), (ad 4, .inl (cI, 12, .inl aC)), (ad 5, .inl (cI, 12, .inl aP)), (ad 6, .inl (cI, 2, .inl aV)), (ad 7, .inl (cI, 12, .inl aN)), (sd 0, .inr (0, [.ref (sd 1), .ref (sd 2), .int (nI mm), .int (nI lv)])), (sd 1, .inl (cI, 20, .inl aM)), (sd 2, .inl (cI, 6, .inl aS)), (oa, .inl (cJ, 1, .inr (.inl g0)))]) [1, 2, 3, 4, 5, 6, 7, 8, 9, 10, 11, 12, 13, 0] (by decide) rfl
  refine vx_catch (own := RL) (name := "java/lang/IllegalArgumentException") hown [] ⟨0, 9, 12, 13⟩ [⟨0, 9, 15, 31⟩] (by rw [htab]; rfl) (fun z hz => nomatch hz) (by decide) (by decide) (hts _ (List.mem_cons_of_mem _ wm_cl_L_13)) (va_Nw.use rfl hE.2.1.1) hq9 hce hcl ?_
  refine lv_astore_n (lv' := [(3, .ref q9), (0, .ref (hf 0)), (1, .int z), (2, .ref oa)]) hx hb dL_value_12 rfl hl (by decide) rfl (fun ls hl => ?_)
  refine lv_iconst (v := 1) hx hb dL_value_13 (by decide) ?_
  exact W.iret (v := 1) hx hb hr (fun t9 ht9 hW9 => ⟨⟨1, (), rfl, rfl, by rw [ht9]; exact hP, va_K.moved hW9.alike hK, hD⟩, hS.F ht9⟩) hS.2.2 dL_value_14
set_option maxHeartbeats 4000000 in
set_option maxRecDepth 100000 in
theorem ctL_value1 (hl9 : l.stackTraces = false) (sa : Nat → Nat) (sz : Nat) (hn : n ≤ 12) (t : Nat) (ht : t < n) : Met l yL_value wsL_value ({ frames := 7, cells := 1, slots := 6, locals := 165 }) (va_Pc [.ref (hf 0), .int (nI t), .ref oa] (fun U => U.heap.size = sz ∧ va_P (dC, dI) vwCl (wF cI hf ad sd aF 0 ck aK aA aB aC aP aV aN n aM aS mm lv ++ [(oa, .inl (cJ, 1, .inr (.inl g0)))]) U.heap ∧ va_K (dC, dI) vwCl [(cI, .int), (cJ, .long)] U ∧ va_D (fun _ => True) (wF cI hf ad sd aF 0 ck aK aA aB aC aP aV aN n aM aS mm lv ++ [(oa, .inl (cJ, 1, .inr (.inl g0)))]) ∧ tx_E (va_A (wF cI hf ad sd aF 0 ck aK aA aB aC aP aV aN n aM aS mm lv ++ [(oa, .inl (cJ, 1, .inr (.inl g0)))]) sz) sa U U.heap)) (va_Qi (fun r _ => r = 2) (fun (u : Unit) t9 => va_P (dC, dI) vwCl (wF cI hf ad sd aF 0 ck aK aA aB aC aP aV aN n aM aS mm lv ++ [(oa, .inl (cJ, 1, .inr (.inl g0)))]) t9.heap ∧ va_K (dC, dI) vwCl [(cI, .int), (cJ, .long)] t9 ∧ va_D (va_A (wF cI hf ad sd aF 0 ck aK aA aB aC aP aV aN n aM aS mm lv ++ [(oa, .inl (cJ, 1, .inr (.inl g0)))]) sz) (wF cI hf ad sd aF 0 ck aK aA aB aC aP aV aN n aM aS mm lv ++ [(oa, .inl (cJ, 1, .inr (.inl g0)))])) (va_A (wF cI hf ad sd aF 0 ck aK aA aB aC aP aV aN n aM aS mm lv ++ [(oa, .inl (cJ, 1, .inr (.inl g0)))]) sz)) 1 6 (va_A (wF cI hf ad sd aF 0 ck aK aA aB aC aP aV aN n aM aS mm lv ++ [(oa, .inl (cJ, 1, .inr (.inl g0)))]) sz) := by
  refine va_MetW (cc := cL_value) (maxL := 4) (ret := (some .int)) (by decide) rfl ?_
  intro p e s m args below meth c s₁ B hml hv
  obtain ⟨rfl, hsz, hP, hK, hD0, hE⟩ := hv
  subst hsz
  have hx := B.exec
  have hb := B.bytes
  have hr := B.returns
  have hts := atoms_spec (ws := wsL_value) B.pre
  have hown : s.vm.findClass RL = some m.cls := findClass_of_methodNamed B.named
  have hlocks := B.notSynchronized
  have hl := lv_entry ([.ref (hf 0), .int (nI t), .ref oa]) (n := 4) (Nat.le_of_ble_eq_true rfl)
  rw [lg_entry_eq]
  generalize (lg_sl ([.ref (hf 0), .int (nI t), .ref oa]) ++ List.replicate (4 - (lg_sl ([.ref (hf 0), .int (nI t), .ref oa])).length) Slot.unset).toArray = ls at hl ⊢
  have hl : lv_has ls 4 [(0, .ref (hf 0)), (1, .int (nI t)), (2, .ref oa)] := hl
  have htab := vx_table (x := yL_value) B (hts _ List.mem_cons_self)
  have hKc := hK.sub (tys' := [(cI, .int)]) [0] rfl
  have hD := hD0.self (sz := s.heap.size)
  generalize hAe : va_A (wF cI hf ad sd aF 0 ck aK aA aB aC aP aV aN n aM aS mm lv ++ [(oa, .inl (cJ, 1, .inr (.inl g0)))]) s.heap.size = A9 at hD hE ⊢
  have hA : ∀ q : Nat, s.heap.size ≤ q → A9 q := fun q h => by rw [← hAe]; exact Or.inr h
  have hS : va_S A9 s.heap s.heap [] := va_S.rf
  refine lv_aload_n hx hb dL_value_0 rfl (lv_at hl 2 rfl) ?_
  refine lv_iconst (v := 0) hx hb dL_value_1 (by decide) ?_
  refine lv_aload_n hx hb dL_value_2 rfl (lv_at hl 0 rfl) ?_
  refine lv_iload_n hx hb dL_value_3 rfl (lv_at hl 1 rfl) ?_
  have hPc := hP.sub (ws' := (wF cI hf ad sd aF 0 ck aK aA aB aC aP aV aN n aM aS mm lv)) [0, 1, 2, 3, 4, 5, 6, 7, 8, 9, 10, 11, 12] rfl
  have hDc := hD.sub (ws' := (wF cI hf ad sd aF 0 ck aK aA aB aC aP aV aN n aM aS mm lv)) [0, 1, 2, 3, 4, 5, 6, 7, 8, 9, 10, 11, 12] (by decide) rfl
  have hFc := va_free (wc := (wF cI hf ad sd aF 0 ck aK aA aB aC aP aV aN n aM aS mm lv)) hD hS hA [0, 1, 2, 3, 4, 5, 6, 7, 8, 9, 10, 11, 12] rfl
  refine vx_calli (vx_runV (C := RX4) (b := hf 0) (As := [.int (nI t)]) (rest := [.int 0, .ref oa]) ⟨hx, hb, hml, hown, hts⟩ (ctX4_value1 l dC dI cI hf ad sd aF ck aK aA aB aC aP aV aN n aM aS mm lv hl9 sa s.heap.size hn t ht) (cwV 1 hts (wA_wsV wm_ml_L_33 wm_im_X4_value wm_se_X4_value wm_in_X4 wm_cd_X4_value) rfl rfl rfl (by decide +kernel) ⟨Nat.le_of_ble_eq_true rfl, Nat.le_of_ble_eq_true rfl⟩) ⟨fun a U g mk q => by obtain ⟨q0, q1, qP, qK, qD, qE⟩ := q; exact ⟨q0, q1, qP, va_K.moved (u := U) (U := U.calling g mk a) (Vm.Alike.refl U.vm) qK, qD, tx_E.same (s := U) (U := U.calling g mk a) rfl qE⟩, va_recv (q := (RX4, TX4, 5)) (q0 := 0) hK hP rfl rfl, fun U hU hW => ⟨rfl, by rw [hU], by rw [hU]; exact hPc, va_K.moved hW.alike hKc, hDc.weaken (fun _ _ _ _ => trivial), by rw [hU]; exact (hE.narrow hFc).warm hW⟩⟩ rfl rfl hl.1 rfl (lv_room (Nat.le_of_ble_eq_true rfl)) dL_value_4 ⟨Nat.le_of_ble_eq_true rfl, Nat.le_of_ble_eq_true rfl⟩) hS (fun q _ h => hFc q h) hFc (fun q _ h => hFc q h) (fun E ce q9 u t8 H1 locs ht8 hvm8 hpx hBX hz1 hk1 hS hq9 hce hcl => ?_) (fun r u t8 H1 locs _ _ hF => hF.elim)
  obtain ⟨rfl, hP1⟩ := hBX
  rw [ht8] at hP1
  have hD1 := hDc.self (sz := s.heap.size)
  obtain ⟨hP, hD⟩ := va_join (wr := [(oa, .inl (cJ, 1, .inr (.inl g0)))]) (w1 := [(hf 0, .inr (2, [.ref (ad 0), .ref (sd 0), .ref (hf 1), .int 0, .int ck])), (hf 1, .inl (cI, 2, .inl aF)), (ad 0, .inr (1, [.ref (ad 1), .ref (ad 2), .ref (ad 3), .ref (ad 4), .ref (ad 5), .ref (ad 6), .ref (ad 7), .int (nI n)])), (ad 1, .inl (cI, 12, .inl aK)), (ad 2, .inl (cI, 12, .inl aA)), (ad 3, .inl (cI, 12, .inl aB)), (ad 4, .inl (cI, 12, .inl aC)), (ad 5, .inl (cI, 12, .inl aP)), (ad 6, .inl (cI, 2, .inl aV)), (ad 7, .inl (cI, 12, .inl aN)), (sd 0, .inr (0, [.ref (sd 1), .ref (sd 2), .int (nI mm), .int (nI lv)])), (sd 1, .inl (cI, 20, .inl aM)), (sd 2, .inl (cI, 6, .inl aS))]) hP hD [0, 1, 2, 3, 4, 5, 6, 7, 8, 9, 10, 11, 12] [13] rfl rfl (by decide) (by decide) hk1 hFc hP1 hD1
  have hP := hP.sub (ws' := [(hf 0, .inr (2, [.ref (ad 0), .ref (sd 0), .ref (hf 1), .int 0, .int ck])), (hf 1, .inl (cI, 2, .inl aF)), (ad 0, .inr (1, [.ref (ad 1), .ref (ad 2), .ref (ad 3), .ref (ad 4), .ref (ad 5), .ref (ad 6), .ref (ad 7), .int (nI n)])), (ad 1, .inl (cI, 12, .inl aK)), (ad 2, .inl (cI, 12, .inl aA)), (ad 3, .inl (cI, 12, .inl aB)), (ad 4, .inl (cI, 12, .inl aC)), (ad 5, .inl (cI, 12, .inl aP)), (ad 6, .inl (cI, 2, .inl aV)), (ad 7, .inl (cI, 12, .inl aN)), (sd 0, .inr (0, [.ref (sd 1), .ref (sd 2), .int (nI mm), .int (nI lv)])), (sd 1, .inl (cI, 20, .inl aM)), (sd 2, .inl (cI, 6, .inl aS)), (oa, .inl (cJ, 1, .inr (.inl g0)))]) [1, 2, 3, 4, 5, 6, 7, 8, 9, 10, 11, 12, 13, 0] rfl
  have hD := hD.sub (ws' := [(hf 0, .inr (2, [.ref (ad 0), .ref (sd 0), .ref (hf 1), .int 0, .int ck])), (hf 1, .inl (cI, 2, .inl aF)), (ad 0, .inr (1, [.ref (ad 1), .ref (ad 2), .ref (ad 3), .ref (ad 4), .ref (ad 5), .ref (ad 6), .ref (ad 7), .int (nI n)])), (ad 1, .inl (cI, 12, .inl aK)), (ad 2, .inl (cI, 12, .inl aA)), (ad 3, .inl (cI, 12, .inl aB)), (ad 4, .inl (cI, 12, .inl aC)), (ad 5, .inl (cI, 12, .inl aP)), (ad 6, .inl (cI, 2, .inl aV)), (ad 7, .inl (cI, 12, .inl aN)), (sd 0, .inr (0, [.ref (sd 1), .ref (sd 2), .int (nI mm), .int (nI lv)])), (sd 1, .inl (cI, 20, .inl aM)), (sd 2, .inl (cI, 6, .inl aS)), (oa, .inl (cJ, 1, .inr (.inl g0)))]) [1, 2, 3, 4, 5, 6, 7, 8, 9, 10, 11, 12, 13, 0] (by decide) rfl
  refine vx_catch (own := RL) (name := "java/util/NoSuchElementException") hown [⟨0, 9, 12, 13⟩] ⟨0, 9, 15, 31⟩ [] (by rw [htab]; rfl) (fun z hz => by rcases List.mem_singleton.mp hz with rfl; exact Or.inr ⟨by decide, "java/lang/IllegalArgumentException", hts _ (List.mem_cons_of_mem _ wm_cl_L_13), hE.2.2.1.2⟩) (by decide) (by decide) (hts _ (List.mem_cons_of_mem _ wm_cl_L_31)) (va_Nw.use rfl hE.2.1.2.2.1) hq9 hce hcl ?_
  refine lv_astore_n (lv' := [(3, .ref q9), (0, .ref (hf 0)), (1, .int (nI t)), (2, .ref oa)]) hx hb dL_value_15 rfl hl (by decide) rfl (fun ls hl => ?_)
  refine lv_iconst (v := 2) hx hb dL_value_16 (by decide) ?_
  exact W.iret (v := 2) hx hb hr (fun t9 ht9 hW9 => ⟨⟨2, (), rfl, rfl, by rw [ht9]; exact hP, va_K.moved hW9.alike hK, hD⟩, hS.F ht9⟩) hS.2.2 dL_value_17
set_option maxHeartbeats 4000000 in
set_option maxRecDepth 100000 in
theorem ctL_value2 (sz : Nat) (hn : n ≤ 12) (fk fa fb fc : Nat → Nat) (hk : ∀ t, t < n → aK t = nI (fk t)) (ha : ∀ t, t < n → aA t = nI (fa t)) (hbb : ∀ t, t < n → aB t = nI (fb t)) (hc : ∀ t, t < n → aC t = nI (fc t)) (hT : pv_TI fk fa fb fc n) (t : Nat) (ht : t < n) : Met l yL_value wsL_value ({ frames := 7, cells := 0, slots := 0, locals := 165 }) (va_Pc [.ref (hf 0), .int (nI t), .ref oa] (fun U => U.heap.size = sz ∧ va_P (dC, dI) vwCl (wF cI hf ad sd aF 1 ck aK aA aB aC aP aV aN n aM aS mm lv ++ [(oa, .inl (cJ, 1, .inr (.inl g0)))]) U.heap ∧ va_K (dC, dI) vwCl [(cI, .int), (cJ, .long)] U ∧ va_D (fun _ => True) (wF cI hf ad sd aF 1 ck aK aA aB aC aP aV aN n aM aS mm lv ++ [(oa, .inl (cJ, 1, .inr (.inl g0)))]))) (va_Qi (fun r _ => r = 0) (fun (u : Unit) t9 => va_P (dC, dI) vwCl (wF cI hf ad sd aF 1 ck aK aA aB aC aP aV ((pc_ah fk fa fb fc (aF 0) (aF 1) (aP t) 0 n 0 aN).2) n aM aS mm lv ++ [(oa, .inl (cJ, 1, .inr (.inl (vp_updL g0 0 ((pc_ah fk fa fb fc (aF 0) (aF 1) (aP t) 0 n 0 aN).2 t).toInt64))))]) t9.heap ∧ va_K (dC, dI) vwCl [(cI, .int), (cJ, .long)] t9 ∧ va_D (va_A (wF cI hf ad sd aF 1 ck aK aA aB aC aP aV aN n aM aS mm lv ++ [(oa, .inl (cJ, 1, .inr (.inl g0)))]) sz) (wF cI hf ad sd aF 1 ck aK aA aB aC aP aV ((pc_ah fk fa fb fc (aF 0) (aF 1) (aP t) 0 n 0 aN).2) n aM aS mm lv ++ [(oa, .inl (cJ, 1, .inr (.inl (vp_updL g0 0 ((pc_ah fk fa fb fc (aF 0) (aF 1) (aP t) 0 n 0 aN).2 t).toInt64))))])) (va_A (wF cI hf ad sd aF 1 ck aK aA aB aC aP aV aN n aM aS mm lv ++ [(oa, .inl (cJ, 1, .inr (.inl g0)))]) sz)) 0 0 (va_A (wF cI hf ad sd aF 1 ck aK aA aB aC aP aV aN n aM aS mm lv ++ [(oa, .inl (cJ, 1, .inr (.inl g0)))]) sz) := by
  refine va_MetW (cc := cL_value) (maxL := 4) (ret := (some .int)) (by decide) rfl ?_
  intro p e s m args below meth c s₁ B hml hv
  obtain ⟨rfl, hsz, hP, hK, hD0⟩ := hv
  subst hsz
  have hx := B.exec
  have hb := B.bytes
  have hr := B.returns
  have hts := atoms_spec (ws := wsL_value) B.pre
  have hown : s.vm.findClass RL = some m.cls := findClass_of_methodNamed B.named
  have hlocks := B.notSynchronized
  have hl := lv_entry ([.ref (hf 0), .int (nI t), .ref oa]) (n := 4) (Nat.le_of_ble_eq_true rfl)
  rw [lg_entry_eq]
  generalize (lg_sl ([.ref (hf 0), .int (nI t), .ref oa]) ++ List.replicate (4 - (lg_sl ([.ref (hf 0), .int (nI t), .ref oa])).length) Slot.unset).toArray = ls at hl ⊢
  have hl : lv_has ls 4 [(0, .ref (hf 0)), (1, .int (nI t)), (2, .ref oa)] := hl
  have hKc := hK.sub (tys' := [(cI, .int)]) [0] rfl
  have hD := hD0.self (sz := s.heap.size)
  generalize hAe : va_A (wF cI hf ad sd aF 1 ck aK aA aB aC aP aV aN n aM aS mm lv ++ [(oa, .inl (cJ, 1, .inr (.inl g0)))]) s.heap.size = A9 at hD ⊢
  have hA : ∀ q : Nat, s.heap.size ≤ q → A9 q := fun q h => by rw [← hAe]; exact Or.inr h
  have hS : va_S A9 s.heap s.heap [] := va_S.rf
  refine lv_aload_n hx hb dL_value_0 rfl (lv_at hl 2 rfl) ?_
  refine lv_iconst (v := 0) hx hb dL_value_1 (by decide) ?_
  refine lv_aload_n hx hb dL_value_2 rfl (lv_at hl 0 rfl) ?_
  refine lv_iload_n hx hb dL_value_3 rfl (lv_at hl 1 rfl) ?_
  have hPc := hP.sub (ws' := (wF cI hf ad sd aF 1 ck aK aA aB aC aP aV aN n aM aS mm lv)) [0, 1, 2, 3, 4, 5, 6, 7, 8, 9, 10, 11, 12] rfl
  have hDc := hD.sub (ws' := (wF cI hf ad sd aF 1 ck aK aA aB aC aP aV aN n aM aS mm lv)) [0, 1, 2, 3, 4, 5, 6, 7, 8, 9, 10, 11, 12] (by decide) rfl
  have hFc := va_free (wc := (wF cI hf ad sd aF 1 ck aK aA aB aC aP aV aN n aM aS mm lv)) hD hS hA [0, 1, 2, 3, 4, 5, 6, 7, 8, 9, 10, 11, 12] rfl
  refine va_calli (va_runV (C := RX4) (b := hf 0) (As := [.int (nI t)]) (rest := [.int 0, .ref oa]) ⟨hx, hb, hml, hown, hts⟩ (ctX4_value2 l dC dI cI hf ad sd aF ck aK aA aB aC aP aV aN n aM aS mm lv s.heap.size hn fk fa fb fc hk ha hbb hc hT t ht) (cwV 1 hts (wA_wsV wm_ml_L_33 wm_im_X4_value wm_se_X4_value wm_in_X4 wm_cd_X4_value) rfl rfl rfl (by decide +kernel) ⟨Nat.le_of_ble_eq_true rfl, Nat.le_of_ble_eq_true rfl⟩) ⟨fun a U g mk q => by obtain ⟨q0, q1, qP, qK, qD⟩ := q; exact ⟨q0, q1, qP, va_K.moved (u := U) (U := U.calling g mk a) (Vm.Alike.refl U.vm) qK, qD⟩, va_recv (q := (RX4, TX4, 5)) (q0 := 0) hK hP rfl rfl, fun U hU hW => ⟨rfl, by rw [hU], by rw [hU]; exact hPc, va_K.moved hW.alike hKc, hDc.weaken (fun _ _ _ _ => trivial)⟩⟩ rfl rfl hl.1 rfl (lv_room (Nat.le_of_ble_eq_true rfl)) dL_value_4 ⟨Nat.zero_le _, Nat.zero_le _⟩) hS (fun q _ h => hFc q h) hFc (fun r1 u t8 H1 locs ht8 hvm8 er1 hB hz1 hk1 hS => ?_)
  obtain ⟨hP1, hK1, hD1⟩ := hB
  rw [ht8] at hP1
  obtain ⟨hP, hD⟩ := va_join (wr := [(oa, .inl (cJ, 1, .inr (.inl g0)))]) (w1 := [(hf 0, .inr (2, [.ref (ad 0), .ref (sd 0), .ref (hf 1), .int 1, .int ck])), (hf 1, .inl (cI, 2, .inl aF)), (ad 0, .inr (1, [.ref (ad 1), .ref (ad 2), .ref (ad 3), .ref (ad 4), .ref (ad 5), .ref (ad 6), .ref (ad 7), .int (nI n)])), (ad 1, .inl (cI, 12, .inl aK)), (ad 2, .inl (cI, 12, .inl aA)), (ad 3, .inl (cI, 12, .inl aB)), (ad 4, .inl (cI, 12, .inl aC)), (ad 5, .inl (cI, 12, .inl aP)), (ad 6, .inl (cI, 2, .inl aV)), (ad 7, .inl (cI, 12, .inl ((pc_ah fk fa fb fc (aF 0) (aF 1) (aP t) 0 n 0 aN).2))), (sd 0, .inr (0, [.ref (sd 1), .ref (sd 2), .int (nI mm), .int (nI lv)])), (sd 1, .inl (cI, 20, .inl aM)), (sd 2, .inl (cI, 6, .inl aS))]) hP hD [0, 1, 2, 3, 4, 5, 6, 7, 8, 9, 10, 11, 12] [13] rfl rfl (by decide) (by decide) hk1 hFc hP1 hD1
  have hP := hP.sub (ws' := [(hf 0, .inr (2, [.ref (ad 0), .ref (sd 0), .ref (hf 1), .int 1, .int ck])), (hf 1, .inl (cI, 2, .inl aF)), (ad 0, .inr (1, [.ref (ad 1), .ref (ad 2), .ref (ad 3), .ref (ad 4), .ref (ad 5), .ref (ad 6), .ref (ad 7), .int (nI n)])), (ad 1, .inl (cI, 12, .inl aK)), (ad 2, .inl (cI, 12, .inl aA)), (ad 3, .inl (cI, 12, .inl aB)), (ad 4, .inl (cI, 12, .inl aC)), (ad 5, .inl (cI, 12, .inl aP)), (ad 6, .inl (cI, 2, .inl aV)), (ad 7, .inl (cI, 12, .inl ((pc_ah fk fa fb fc (aF 0) (aF 1) (aP t) 0 n 0 aN).2))), (sd 0, .inr (0, [.ref (sd 1), .ref (sd 2), .int (nI mm), .int (nI lv)])), (sd 1, .inl (cI, 20, .inl aM)), (sd 2, .inl (cI, 6, .inl aS)), (oa, .inl (cJ, 1, .inr (.inl g0)))]) [1, 2, 3, 4, 5, 6, 7, 8, 9, 10, 11, 12, 13, 0] rfl
  have hD := hD.sub (ws' := [(hf 0, .inr (2, [.ref (ad 0), .ref (sd 0), .ref (hf 1), .int 1, .int ck])), (hf 1, .inl (cI, 2, .inl aF)), (ad 0, .inr (1, [.ref (ad 1), .ref (ad 2), .ref (ad 3), .ref (ad 4), .ref (ad 5), .ref (ad 6), .ref (ad 7), .int (nI n)])), (ad 1, .inl (cI, 12, .inl aK)), (ad 2, .inl (cI, 12, .inl aA)), (ad 3, .inl (cI, 12, .inl aB)), (ad 4, .inl (cI, 12, .inl aC)), (ad 5, .inl (cI, 12, .inl aP)), (ad 6, .inl (cI, 2, .inl aV)), (ad 7, .inl (cI, 12, .inl ((pc_ah fk fa fb fc (aF 0) (aF 1) (aP t) 0 n 0 aN).2))), (sd 0, .inr (0, [.ref (sd 1), .ref (sd 2), .int (nI mm), .int (nI lv)])), (sd 1, .inl (cI, 20, .inl aM)), (sd 2, .inl (cI, 6, .inl aS)), (oa, .inl (cJ, 1, .inr (.inl g0)))]) [1, 2, 3, 4, 5, 6, 7, 8, 9, 10, 11, 12, 13, 0] (by decide) rfl
  generalize H1 = H at hP hS ⊢
  subst er1
  refine lv_i2l (v := ((pc_ah fk fa fb fc (aF 0) (aF 1) (aP t) 0 n 0 aN).2 t).toInt64) hx hb dL_value_7 rfl ?_
  refine va_last (i := 0) hx hb hK hP hD hS 13 1 rfl rfl xo_in dL_value_8 (fun H locs hP hD hS => ?_)
  have hP : va_P (dC, dI) vwCl [(hf 0, .inr (2, [.ref (ad 0), .ref (sd 0), .ref (hf 1), .int 1, .int ck])), (hf 1, .inl (cI, 2, .inl aF)), (ad 0, .inr (1, [.ref (ad 1), .ref (ad 2), .ref (ad 3), .ref (ad 4), .ref (ad 5), .ref (ad 6), .ref (ad 7), .int (nI n)])), (ad 1, .inl (cI, 12, .inl aK)), (ad 2, .inl (cI, 12, .inl aA)), (ad 3, .inl (cI, 12, .inl aB)), (ad 4, .inl (cI, 12, .inl aC)), (ad 5, .inl (cI, 12, .inl aP)), (ad 6, .inl (cI, 2, .inl aV)), (ad 7, .inl (cI, 12, .inl ((pc_ah fk fa fb fc (aF 0) (aF 1) (aP t) 0 n 0 aN).2))), (sd 0, .inr (0, [.ref (sd 1), .ref (sd 2), .int (nI mm), .int (nI lv)])), (sd 1, .inl (cI, 20, .inl aM)), (sd 2, .inl (cI, 6, .inl aS)), (oa, .inl (cJ, 1, .inr (.inl (vp_updL g0 0 (((pc_ah fk fa fb fc (aF 0) (aF 1) (aP t) 0 n 0 aN).2 t).toInt64)))))] H := hP
  have hD : va_D A9 [(hf 0, .inr (2, [.ref (ad 0), .ref (sd 0), .ref (hf 1), .int 1, .int ck])), (hf 1, .inl (cI, 2, .inl aF)), (ad 0, .inr (1, [.ref (ad 1), .ref (ad 2), .ref (ad 3), .ref (ad 4), .ref (ad 5), .ref (ad 6), .ref (ad 7), .int (nI n)])), (ad 1, .inl (cI, 12, .inl aK)), (ad 2, .inl (cI, 12, .inl aA)), (ad 3, .inl (cI, 12, .inl aB)), (ad 4, .inl (cI, 12, .inl aC)), (ad 5, .inl (cI, 12, .inl aP)), (ad 6, .inl (cI, 2, .inl aV)), (ad 7, .inl (cI, 12, .inl ((pc_ah fk fa fb fc (aF 0) (aF 1) (aP t) 0 n 0 aN).2))), (sd 0, .inr (0, [.ref (sd 1), .ref (sd 2), .int (nI mm), .int (nI lv)])), (sd 1, .inl (cI, 20, .inl aM)), (sd 2, .inl (cI, 6, .inl aS)), (oa, .inl (cJ, 1, .inr (.inl (vp_updL g0 0 (((pc_ah fk fa fb fc (aF 0) (aF 1) (aP t) 0 n 0 aN).2 t).toInt64)))))] := hD
  refine lv_goto (tgt := 18) hx hb dL_value_9 (by decide) ?_
  refine lv_iconst (v := 0) hx hb dL_value_18 (by decide) ?_
  exact W.iret (v := 0) hx hb hr (fun t9 ht9 hW9 => ⟨⟨0, (), rfl, rfl, by rw [ht9]; exact hP, va_K.moved hW9.alike hK, hD⟩, hS.F ht9⟩) hS.2.2 dL_value_19
set_option maxHeartbeats 4000000 in
set_option maxRecDepth 100000 in
theorem ctL_reckon0 (hl9 : l.stackTraces = false) (sa : Nat → Nat) (sz : Nat) (k0 x y : Int32) (hno : ¬ pr_ok k0 x y) : Met l yL_reckon wsL_reckon ({ frames := 7, cells := 1, slots := 6, locals := 123 }) (va_Pc [.ref (hf 0), .int k0, .int x, .int y, .ref oa] (fun U => U.heap.size = sz ∧ va_P (dC, dI) vwCl (wF cI hf ad sd aF ms ck aK aA aB aC aP aV aN n aM aS mm lv ++ [(oa, .inl (cJ, 1, .inr (.inl g0)))]) U.heap ∧ va_K (dC, dI) vwCl [(cI, .int), (cJ, .long)] U ∧ va_D (fun _ => True) (wF cI hf ad sd aF ms ck aK aA aB aC aP aV aN n aM aS mm lv ++ [(oa, .inl (cJ, 1, .inr (.inl g0)))]) ∧ tx_E (va_A (wF cI hf ad sd aF ms ck aK aA aB aC aP aV aN n aM aS mm lv ++ [(oa, .inl (cJ, 1, .inr (.inl g0)))]) sz) sa U U.heap)) (va_Qi (fun r _ => r = 1) (fun (u : Unit) t9 => va_P (dC, dI) vwCl (wF cI hf ad sd aF ms ck aK aA aB aC aP aV aN n aM aS mm lv ++ [(oa, .inl (cJ, 1, .inr (.inl g0)))]) t9.heap ∧ va_K (dC, dI) vwCl [(cI, .int), (cJ, .long)] t9 ∧ va_D (va_A (wF cI hf ad sd aF ms ck aK aA aB aC aP aV aN n aM aS mm lv ++ [(oa, .inl (cJ, 1, .inr (.inl g0)))]) sz) (wF cI hf ad sd aF ms ck aK aA aB aC aP aV aN n aM aS mm lv ++ [(oa, .inl (cJ, 1, .inr (.inl g0)))])) (va_A (wF cI hf ad sd aF ms ck aK aA aB aC aP aV aN n aM aS mm lv ++ [(oa, .inl (cJ, 1, .inr (.inl g0)))]) sz)) 1 6 (va_A (wF cI hf ad sd aF ms ck aK aA aB aC aP aV aN n aM aS mm lv ++ [(oa, .inl (cJ, 1, .inr (.inl g0)))]) sz) := by
  refine va_MetW (cc := cL_reckon) (maxL := 6) (ret := (some .int)) (by decide) rfl ?_
  intro p e s m args below meth c s₁ B hml hv
  obtain ⟨rfl, hsz, hP, hK, hD0, hE⟩ := hv
  subst hsz
  have hx := B.exec
  have hb := B.bytes
  have hr := B.returns
  have hts := atoms_spec (ws := wsL_reckon) B.pre
  have hown : s.vm.findClass RL = some m.cls := findClass_of_methodNamed B.named
  have hlocks := B.notSynchronized
  have hl := lv_entry ([.ref (hf 0), .int k0, .int x, .int y, .ref oa]) (n := 6) (Nat.le_of_ble_eq_true rfl)
  rw [lg_entry_eq]
  generalize (lg_sl ([.ref (hf 0), .int k0, .int x, .int y, .ref oa]) ++ List.replicate (6 - (lg_sl ([.ref (hf 0), .int k0, .int x, .int y, .ref oa])).length) Slot.unset).toArray = ls at hl ⊢
  have hl : lv_has ls 6 [(0, .ref (hf 0)), (1, .int k0), (2, .int x), (3, .int y), (4, .ref oa)] := hl
  have htab := vx_table (x := yL_reckon) B (hts _ List.mem_cons_self)
  have hKc := hK.sub (tys' := [(cI, .int)]) [0] rfl
  have hD := hD0.self (sz := s.heap.size)
  generalize hAe : va_A (wF cI hf ad sd aF ms ck aK aA aB aC aP aV aN n aM aS mm lv ++ [(oa, .inl (cJ, 1, .inr (.inl g0)))]) s.heap.size = A9 at hD hE ⊢
  have hA : ∀ q : Nat, s.heap.size ≤ q → A9 q := fun q h => by rw [← hAe]; exact Or.inr h
  have hS : va_S A9 s.heap s.heap [] := va_S.rf
  refine lv_aload hx hb dL_reckon_0 (lv_at hl 4 rfl) ?_
  refine lv_iconst (v := 0) hx hb dL_reckon_2 (by decide) ?_
  refine lv_aload_n hx hb dL_reckon_3 rfl (lv_at hl 0 rfl) ?_
  refine lv_iload_n hx hb dL_reckon_4 rfl (lv_at hl 1 rfl) ?_
  refine lv_iload_n hx hb dL_reckon_5 rfl (lv_at hl 2 rfl) ?_
  refine lv_iload_n hx hb dL_reckon_6 rfl (lv_at hl 3 rfl) ?_
  have hPc := hP.sub (ws' := (wF cI hf ad sd aF ms ck aK aA aB aC aP aV aN n aM aS mm lv)) [0, 1, 2, 3, 4, 5, 6, 7, 8, 9, 10, 11, 12] rfl
  have hDc := hD.sub (ws' := (wF cI hf ad sd aF ms ck aK aA aB aC aP aV aN n aM aS mm lv)) [0, 1, 2, 3, 4, 5, 6, 7, 8, 9, 10, 11, 12] (by decide) rfl
  have hFc := va_free (wc := (wF cI hf ad sd aF ms ck aK aA aB aC aP aV aN n aM aS mm lv)) hD hS hA [0, 1, 2, 3, 4, 5, 6, 7, 8, 9, 10, 11, 12] rfl
  refine vx_calli (vx_runV (C := RX4) (b := hf 0) (As := [.int k0, .int x, .int y]) (rest := [.int 0, .ref oa]) ⟨hx, hb, hml, hown, hts⟩ (ctX4_reckon0 l dC dI cI hf ad sd aF ms ck aK aA aB aC aP aV aN n aM aS mm lv hl9 sa s.heap.size k0 x y hno) (cwV 3 hts (wA_wsV wm_ml_L_36 wm_im_X4_reckon wm_se_X4_reckon wm_in_X4 wm_cd_X4_reckon) rfl rfl rfl (by decide +kernel) ⟨Nat.le_of_ble_eq_true rfl, Nat.le_of_ble_eq_true rfl⟩) ⟨fun a U g mk q => by obtain ⟨q0, q1, qP, qK, qD, qE⟩ := q; exact ⟨q0, q1, qP, va_K.moved (u := U) (U := U.calling g mk a) (Vm.Alike.refl U.vm) qK, qD, tx_E.same (s := U) (U := U.calling g mk a) rfl qE⟩, va_recv (q := (RX4, TX4, 5)) (q0 := 0) hK hP rfl rfl, fun U hU hW => ⟨rfl, by rw [hU], by rw [hU]; exact hPc, va_K.moved hW.alike hKc, hDc.weaken (fun _ _ _ _ => trivial), by rw [hU]; exact (hE.narrow hFc).warm hW⟩⟩ rfl rfl hl.1 rfl (lv_room (Nat.le_of_ble_eq_true rfl)) dL_reckon_7 ⟨Nat.le_of_ble_eq_true rfl, Nat.le_of_ble_eq_true rfl⟩) hS (fun q _ h => hFc q h) hFc (fun q _ h => hFc q h) (fun E ce q9 u t8 H1 locs ht8 hvm8 hpx hBX hz1 hk1 hS hq9 hce hcl => ?_) (fun r u t8 H1 locs _ _ hF => hF.elim)
  obtain ⟨rfl, hP1⟩ := hBX
  rw [ht8] at hP1
  have hD1 := hDc.self (sz := s.heap.size)
  obtain ⟨hP, hD⟩ := va_join (wr := [(oa, .inl (cJ, 1, .inr (.inl g0)))]) (w1 := [(hf 0, .inr (2, [.ref (ad 0), .ref (sd 0), .ref (hf 1), .int ms, .int ck])), (hf 1, .inl (cI, 2, .inl aF)), (ad 0, .inr (1, [.ref (ad 1), .ref (ad 2), .ref (ad 3), .ref (ad 4), .ref (ad 5), .ref (ad 6), .ref (ad 7), .int (nI n)])), (ad 1, .inl (cI, 12, .inl aK)), (ad 2, .inl (cI, 12, .inl aA)), (ad 3, .inl (cI, 12, .inl aB)), (ad 4, .inl (cI, 12, .inl aC)), (ad 5, .inl (cI, 12, .inl aP)), (ad 6, .inl (cI, 2, .inl aV)), (ad 7, .inl (cI, 12, .inl aN)), (sd 0, .inr (0, [.ref (sd 1), .ref (sd 2), .int (nI mm), .int (nI lv)])), (sd 1, .inl (cI, 20, .inl aM)), (sd 2, .inl (cI, 6, .inl aS))]) hP hD [0, 1, 2, 3, 4, 5, 6, 7, 8, 9, 10, 11, 12] [13] rfl rfl (by decide) (by decide) hk1 hFc hP1 hD1
  have hP := hP.sub (ws' := [(hf 0, .inr (2, [.ref (ad 0), .ref (sd 0), .ref (hf 1), .int ms, .int ck])), (hf 1, .inl (cI, 2, .inl aF)), (ad 0, .inr (1, [.ref (ad 1), .ref (ad 2), .ref (ad 3), .ref (ad 4), .ref (ad 5), .ref (ad 6), .ref (ad 7), .int (nI n)])), (ad 1, .inl (cI, 12, .inl aK)), (ad 2, .inl (cI, 12, .inl aA)), (ad 3, .inl (cI, 12, .inl aB)), (ad 4, .inl (cI, 12, .inl aC)), (ad 5, .inl (cI, 12, .inl aP)), (ad 6, .inl (cI, 2, .inl aV)), (ad 7, .inl (cI, 12, .inl aN)), (sd 0, .inr (0, [.ref (sd 1), .ref (sd 2), .int (nI mm), .int (nI lv)])), (sd 1, .inl (cI, 20, .inl aM)), (sd 2, .inl (cI, 6, .inl aS)), (oa, .inl (cJ, 1, .inr (.inl g0)))]) [1, 2, 3, 4, 5, 6, 7, 8, 9, 10, 11, 12, 13, 0] rfl
  have hD := hD.sub (ws' := [(hf 0, .inr (2, [.ref (ad 0), .ref (sd 0), .ref (hf 1), .int ms, .int ck])), (hf 1, .inl (cI, 2, .inl aF)), (ad 0, .inr (1, [.ref (ad 1), .ref (ad 2), .ref (ad 3), .ref (ad 4), .ref (ad 5), .ref (ad 6), .ref (ad 7), .int (nI n)])), (ad 1, .inl (cI, 12, .inl aK)), (ad 2, .inl (cI, 12, .inl aA)), (ad 3, .inl (cI, 12, .inl aB)), (ad 4, .inl (cI, 12, .inl aC)), (ad 5, .inl (cI, 12, .inl aP)), (ad 6, .inl (cI, 2, .inl aV)), (ad 7, .inl (cI, 12, .inl aN)), (sd 0, .inr (0, [.ref (sd 1), .ref (sd 2), .int (nI mm), .int (nI lv)])), (sd 1, .inl (cI, 20, .inl aM)), (sd 2, .inl (cI, 6, .inl aS)), (oa, .inl (cJ, 1, .inr (.inl g0)))]) [1, 2, 3, 4, 5, 6, 7, 8, 9, 10, 11, 12, 13, 0] (by decide) rfl
  refine vx_catch (own := RL) (name := "java/lang/IllegalArgumentException") hown [] ⟨0, 12, 15, 13⟩ [] (by rw [htab]; rfl) (fun z hz => nomatch hz) (by decide) (by decide) (hts _ (List.mem_cons_of_mem _ wm_cl_L_13)) (va_Nw.use rfl hE.2.1.1) hq9 hce hcl ?_
  refine lv_astore (lv' := [(5, .ref q9), (0, .ref (hf 0)), (1, .int k0), (2, .int x), (3, .int y), (4, .ref oa)]) hx hb dL_reckon_15 hl (by decide) rfl (fun ls hl => ?_)
  refine lv_iconst (v := 1) hx hb dL_reckon_17 (by decide) ?_
  exact W.iret (v := 1) hx hb hr (fun t9 ht9 hW9 => ⟨⟨1, (), rfl, rfl, by rw [ht9]; exact hP, va_K.moved hW9.alike hK, hD⟩, hS.F ht9⟩) hS.2.2 dL_reckon_18
set_option maxHeartbeats 4000000 in
set_option maxRecDepth 100000 in
theorem ctL_reckon1 (sz : Nat) (k0 x y : Int32) (hok : pr_ok k0 x y) : Met l yL_reckon wsL_reckon ({ frames := 7, cells := 0, slots := 0, locals := 123 }) (va_Pc [.ref (hf 0), .int k0, .int x, .int y, .ref oa] (fun U => U.heap.size = sz ∧ va_P (dC, dI) vwCl (wF cI hf ad sd aF ms ck aK aA aB aC aP aV aN n aM aS mm lv ++ [(oa, .inl (cJ, 1, .inr (.inl g0)))]) U.heap ∧ va_K (dC, dI) vwCl [(cI, .int), (cJ, .long)] U ∧ va_D (fun _ => True) (wF cI hf ad sd aF ms ck aK aA aB aC aP aV aN n aM aS mm lv ++ [(oa, .inl (cJ, 1, .inr (.inl g0)))]))) (va_Qi (fun r _ => r = 0) (fun (u : Unit) t9 => va_P (dC, dI) vwCl (wF cI hf ad sd aF ms ck aK aA aB aC aP aV aN n aM aS mm lv ++ [(oa, .inl (cJ, 1, .inr (.inl (vp_updL g0 0 (pu_op k0 x y).toInt64))))]) t9.heap ∧ va_K (dC, dI) vwCl [(cI, .int), (cJ, .long)] t9 ∧ va_D (va_A (wF cI hf ad sd aF ms ck aK aA aB aC aP aV aN n aM aS mm lv ++ [(oa, .inl (cJ, 1, .inr (.inl g0)))]) sz) (wF cI hf ad sd aF ms ck aK aA aB aC aP aV aN n aM aS mm lv ++ [(oa, .inl (cJ, 1, .inr (.inl (vp_updL g0 0 (pu_op k0 x y).toInt64))))])) (va_A (wF cI hf ad sd aF ms ck aK aA aB aC aP aV aN n aM aS mm lv ++ [(oa, .inl (cJ, 1, .inr (.inl g0)))]) sz)) 0 0 (va_A (wF cI hf ad sd aF ms ck aK aA aB aC aP aV aN n aM aS mm lv ++ [(oa, .inl (cJ, 1, .inr (.inl g0)))]) sz) := by
  refine va_MetW (cc := cL_reckon) (maxL := 6) (ret := (some .int)) (by decide) rfl ?_
  intro p e s m args below meth c s₁ B hml hv
  obtain ⟨rfl, hsz, hP, hK, hD0⟩ := hv
  subst hsz
  have hx := B.exec
  have hb := B.bytes
  have hr := B.returns
  have hts := atoms_spec (ws := wsL_reckon) B.pre
  have hown : s.vm.findClass RL = some m.cls := findClass_of_methodNamed B.named
  have hlocks := B.notSynchronized
  have hl := lv_entry ([.ref (hf 0), .int k0, .int x, .int y, .ref oa]) (n := 6) (Nat.le_of_ble_eq_true rfl)
  rw [lg_entry_eq]
  generalize (lg_sl ([.ref (hf 0), .int k0, .int x, .int y, .ref oa]) ++ List.replicate (6 - (lg_sl ([.ref (hf 0), .int k0, .int x, .int y, .ref oa])).length) Slot.unset).toArray = ls at hl ⊢
  have hl : lv_has ls 6 [(0, .ref (hf 0)), (1, .int k0), (2, .int x), (3, .int y), (4, .ref oa)] := hl
  have hKc := hK.sub (tys' := [(cI, .int)]) [0] rfl
  have hD := hD0.self (sz := s.heap.size)
  generalize hAe : va_A (wF cI hf ad sd aF ms ck aK aA aB aC aP aV aN n aM aS mm lv ++ [(oa, .inl (cJ, 1, .inr (.inl g0)))]) s.heap.size = A9 at hD ⊢
  have hA : ∀ q : Nat, s.heap.size ≤ q → A9 q := fun q h => by rw [← hAe]; exact Or.inr h
  have hS : va_S A9 s.heap s.heap [] := va_S.rf
  refine lv_aload hx hb dL_reckon_0 (lv_at hl 4 rfl) ?_
  refine lv_iconst (v := 0) hx hb dL_reckon_2 (by decide) ?_
  refine lv_aload_n hx hb dL_reckon_3 rfl (lv_at hl 0 rfl) ?_
  refine lv_iload_n hx hb dL_reckon_4 rfl (lv_at hl 1 rfl) ?_
  refine lv_iload_n hx hb dL_reckon_5 rfl (lv_at hl 2 rfl) ?_
  refine lv_iload_n hx hb dL_reckon_6 rfl (lv_at hl 3 rfl) ?_
  have hPc := hP.sub (ws' := (wF cI hf ad sd aF ms ck aK aA aB aC aP aV aN n aM aS mm lv)) [0, 1, 2, 3, 4, 5, 6, 7, 8, 9, 10, 11, 12] rfl
  have hDc := hD.sub (ws' := (wF cI hf ad sd aF ms ck aK aA aB aC aP aV aN n aM aS mm lv)) [0, 1, 2, 3, 4, 5, 6, 7, 8, 9, 10, 11, 12] (by decide) rfl
  have hFc := va_free (wc := (wF cI hf ad sd aF ms ck aK aA aB aC aP aV aN n aM aS mm lv)) hD hS hA [0, 1, 2, 3, 4, 5, 6, 7, 8, 9, 10, 11, 12] rfl
  refine va_calli (va_runV (C := RX4) (b := hf 0) (As := [.int k0, .int x, .int y]) (rest := [.int 0, .ref oa]) ⟨hx, hb, hml, hown, hts⟩ (ctX4_reckon1 l dC dI cI hf ad sd aF ms ck aK aA aB aC aP aV aN n aM aS mm lv s.heap.size k0 x y hok) (cwV 3 hts (wA_wsV wm_ml_L_36 wm_im_X4_reckon wm_se_X4_reckon wm_in_X4 wm_cd_X4_reckon) rfl rfl rfl (by decide +kernel) ⟨Nat.le_of_ble_eq_true rfl, Nat.le_of_ble_eq_true rfl⟩) ⟨fun a U g mk q => by obtain ⟨q0, q1, qP, qK, qD⟩ := q; exact ⟨q0, q1, qP, va_K.moved (u := U) (U := U.calling g mk a) (Vm.Alike.refl U.vm) qK, qD⟩, va_recv (q := (RX4, TX4, 5)) (q0 := 0) hK hP rfl rfl, fun U hU hW => ⟨rfl, by rw [hU], by rw [hU]; exact hPc, va_K.moved hW.alike hKc, hDc.weaken (fun _ _ _ _ => trivial)⟩⟩ rfl rfl hl.1 rfl (lv_room (Nat.le_of_ble_eq_true rfl)) dL_reckon_7 ⟨Nat.zero_le _, Nat.zero_le _⟩) hS (fun q _ h => hFc q h) hFc (fun r1 u t8 H1 locs ht8 hvm8 er1 hB hz1 hk1 hS => ?_)
  obtain ⟨hP1, hK1, hD1⟩ := hB
  rw [ht8] at hP1
  obtain ⟨hP, hD⟩ := va_join (wr := [(oa, .inl (cJ, 1, .inr (.inl g0)))]) (w1 := [(hf 0, .inr (2, [.ref (ad 0), .ref (sd 0), .ref (hf 1), .int ms, .int ck])), (hf 1, .inl (cI, 2, .inl aF)), (ad 0, .inr (1, [.ref (ad 1), .ref (ad 2), .ref (ad 3), .ref (ad 4), .ref (ad 5), .ref (ad 6), .ref (ad 7), .int (nI n)])), (ad 1, .inl (cI, 12, .inl aK)), (ad 2, .inl (cI, 12, .inl aA)), (ad 3, .inl (cI, 12, .inl aB)), (ad 4, .inl (cI, 12, .inl aC)), (ad 5, .inl (cI, 12, .inl aP)), (ad 6, .inl (cI, 2, .inl aV)), (ad 7, .inl (cI, 12, .inl aN)), (sd 0, .inr (0, [.ref (sd 1), .ref (sd 2), .int (nI mm), .int (nI lv)])), (sd 1, .inl (cI, 20, .inl aM)), (sd 2, .inl (cI, 6, .inl aS))]) hP hD [0, 1, 2, 3, 4, 5, 6, 7, 8, 9, 10, 11, 12] [13] rfl rfl (by decide) (by decide) hk1 hFc hP1 hD1
  have hP := hP.sub (ws' := [(hf 0, .inr (2, [.ref (ad 0), .ref (sd 0), .ref (hf 1), .int ms, .int ck])), (hf 1, .inl (cI, 2, .inl aF)), (ad 0, .inr (1, [.ref (ad 1), .ref (ad 2), .ref (ad 3), .ref (ad 4), .ref (ad 5), .ref (ad 6), .ref (ad 7), .int (nI n)])), (ad 1, .inl (cI, 12, .inl aK)), (ad 2, .inl (cI, 12, .inl aA)), (ad 3, .inl (cI, 12, .inl aB)), (ad 4, .inl (cI, 12, .inl aC)), (ad 5, .inl (cI, 12, .inl aP)), (ad 6, .inl (cI, 2, .inl aV)), (ad 7, .inl (cI, 12, .inl aN)), (sd 0, .inr (0, [.ref (sd 1), .ref (sd 2), .int (nI mm), .int (nI lv)])), (sd 1, .inl (cI, 20, .inl aM)), (sd 2, .inl (cI, 6, .inl aS)), (oa, .inl (cJ, 1, .inr (.inl g0)))]) [1, 2, 3, 4, 5, 6, 7, 8, 9, 10, 11, 12, 13, 0] rfl
  have hD := hD.sub (ws' := [(hf 0, .inr (2, [.ref (ad 0), .ref (sd 0), .ref (hf 1), .int ms, .int ck])), (hf 1, .inl (cI, 2, .inl aF)), (ad 0, .inr (1, [.ref (ad 1), .ref (ad 2), .ref (ad 3), .ref (ad 4), .ref (ad 5), .ref (ad 6), .ref (ad 7), .int (nI n)])), (ad 1, .inl (cI, 12, .inl aK)), (ad 2, .inl (cI, 12, .inl aA)), (ad 3, .inl (cI, 12, .inl aB)), (ad 4, .inl (cI, 12, .inl aC)), (ad 5, .inl (cI, 12, .inl aP)), (ad 6, .inl (cI, 2, .inl aV)), (ad 7, .inl (cI, 12, .inl aN)), (sd 0, .inr (0, [.ref (sd 1), .ref (sd 2), .int (nI mm), .int (nI lv)])), (sd 1, .inl (cI, 20, .inl aM)), (sd 2, .inl (cI, 6, .inl aS)), (oa, .inl (cJ, 1, .inr (.inl g0)))]) [1, 2, 3, 4, 5, 6, 7, 8, 9, 10, 11, 12, 13, 0] (by decide) rfl
  generalize H1 = H at hP hS ⊢
  subst er1
  refine lv_i2l (v := (pu_op k0 x y).toInt64) hx hb dL_reckon_10 rfl ?_
  refine va_last (i := 0) hx hb hK hP hD hS 13 1 rfl rfl xo_in dL_reckon_11 (fun H locs hP hD hS => ?_)
  have hP : va_P (dC, dI) vwCl [(hf 0, .inr (2, [.ref (ad 0), .ref (sd 0), .ref (hf 1), .int ms, .int ck])), (hf 1, .inl (cI, 2, .inl aF)), (ad 0, .inr (1, [.ref (ad 1), .ref (ad 2), .ref (ad 3), .ref (ad 4), .ref (ad 5), .ref (ad 6), .ref (ad 7), .int (nI n)])), (ad 1, .inl (cI, 12, .inl aK)), (ad 2, .inl (cI, 12, .inl aA)), (ad 3, .inl (cI, 12, .inl aB)), (ad 4, .inl (cI, 12, .inl aC)), (ad 5, .inl (cI, 12, .inl aP)), (ad 6, .inl (cI, 2, .inl aV)), (ad 7, .inl (cI, 12, .inl aN)), (sd 0, .inr (0, [.ref (sd 1), .ref (sd 2), .int (nI mm), .int (nI lv)])), (sd 1, .inl (cI, 20, .inl aM)), (sd 2, .inl (cI, 6, .inl aS)), (oa, .inl (cJ, 1, .inr (.inl (vp_updL g0 0 ((pu_op k0 x y).toInt64)))))] H := hP
  have hD : va_D A9 [(hf 0, .inr (2, [.ref (ad 0), .ref (sd 0), .ref (hf 1), .int ms, .int ck])), (hf 1, .inl (cI, 2, .inl aF)), (ad 0, .inr (1, [.ref (ad 1), .ref (ad 2), .ref (ad 3), .ref (ad 4), .ref (ad 5), .ref (ad 6), .ref (ad 7), .int (nI n)])), (ad 1, .inl (cI, 12, .inl aK)), (ad 2, .inl (cI, 12, .inl aA)), (ad 3, .inl (cI, 12, .inl aB)), (ad 4, .inl (cI, 12, .inl aC)), (ad 5, .inl (cI, 12, .inl aP)), (ad 6, .inl (cI, 2, .inl aV)), (ad 7, .inl (cI, 12, .inl aN)), (sd 0, .inr (0, [.ref (sd 1), .ref (sd 2), .int (nI mm), .int (nI lv)])), (sd 1, .inl (cI, 20, .inl aM)), (sd 2, .inl (cI, 6, .inl aS)), (oa, .inl (cJ, 1, .inr (.inl (vp_updL g0 0 ((pu_op k0 x y).toInt64)))))] := hD
  refine lv_goto (tgt := 19) hx hb dL_reckon_12 (by decide) ?_
  refine lv_iconst (v := 0) hx hb dL_reckon_19 (by decide) ?_
  exact W.iret (v := 0) hx hb hr (fun t9 ht9 hW9 => ⟨⟨0, (), rfl, rfl, by rw [ht9]; exact hP, va_K.moved hW9.alike hK, hD⟩, hS.F ht9⟩) hS.2.2 dL_reckon_20
end LAH
