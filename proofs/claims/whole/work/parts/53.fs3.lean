theorem pq_lt {k : Nat → Nat} {n s p : Nat} (hn : n ≤ 12) (h : pv_fit k n s p) (h4 : s ≤ 4) (hs : 3 ≤ s) : p < 12 := by
  obtain ⟨-, -, -, f3, f4⟩ := h
  rcases (show s = 3 ∨ s = 4 by omega) with e | e
  · have := (f3 e).1; omega
  · have := (f4 e).1; omega
theorem pu_iso_y {k : Int32} (h : ∃ κ, κ < 17 ∧ 2 ≤ κ ∧ κ ≠ 9 ∧ k = nI κ) : pu_iso k = 1 := by
  unfold pu_iso
  rw [if_neg (fun z => pr_lt2 z h), if_neg (fun z => pr_gt16 z h), if_neg (fun z => pr_eq9 z h)]
theorem pu_iso_no {k : Int32} (h : ¬ ∃ κ, κ < 17 ∧ 2 ≤ κ ∧ κ ≠ 9 ∧ k = nI κ) : pu_iso k = 0 := by
  unfold pu_iso
  by_cases h1 : k < 2
  · rw [if_pos h1]
  · rw [if_neg h1]
    by_cases h2 : 16 < k
    · rw [if_pos h2]
    · rw [if_neg h2]
      by_cases h3 : k = 9
      · rw [if_pos h3]
      · exact absurd (pr_yes h1 h2 h3) h
theorem pu_isn_e {x : Int32} (h : ∃ j, j < 32 ∧ x = nI j) : pu_isn x = 1 := by
  obtain ⟨j, hj, rfl⟩ := h
  exact pu_isn_y hj
section FS3
variable (l : Launch) (dC : Nat → ClassId) (dI : Nat → Nat → Nat) (cI : ClassId) (hf ad sd : Nat → Nat) (aF : Nat → Int32) (ms ck : Int32) (aK aA aB aC aP aV aN : Nat → Int32) (n : Nat) (aM aS : Nat → Int32) (mm lv : Nat)
set_option maxHeartbeats 4000000 in
set_option maxRecDepth 100000 in
theorem ctX4_term0 (hl9 : l.stackTraces = false) (sa : Nat → Nat) (sz : Nat) (hn : n ≤ 12) (fk : Nat → Nat) (hk : ∀ t, t < n → aK t = nI (fk t)) (hk2 : ∀ t, t < n → fk t < 20) (kd a0 b0 c0 : Int32) (hno : ¬ pq_alw fk n kd a0 b0 c0) : vx_Met l yX4_term wsX4_term ({ frames := 6, cells := 1, slots := 6, locals := 100 }) (va_Pc [.ref (hf 0), .int kd, .int a0, .int b0, .int c0] (fun U => U.heap.size = sz ∧ va_P (dC, dI) vwCl (wF cI hf ad sd aF ms ck aK aA aB aC aP aV aN n aM aS mm lv) U.heap ∧ va_K (dC, dI) vwCl [(cI, .int)] U ∧ va_D (fun _ => True) (wF cI hf ad sd aF ms ck aK aA aB aC aP aV aN n aM aS mm lv) ∧ tx_E (va_A (wF cI hf ad sd aF ms ck aK aA aB aC aP aV aN n aM aS mm lv) sz) sa U U.heap)) (va_Qi (fun _ (_ : Unit) => False) (fun _ _ => True) (va_A (wF cI hf ad sd aF ms ck aK aA aB aC aP aV aN n aM aS mm lv) sz)) (tx_X "java/lang/IllegalArgumentException" (dC, dI) vwCl (wF cI hf ad sd aF ms ck aK aA aB aC aP aV aN n aM aS mm lv) (va_A (wF cI hf ad sd aF ms ck aK aA aB aC aP aV aN n aM aS mm lv) sz)) 1 6 (va_A (wF cI hf ad sd aF ms ck aK aA aB aC aP aV aN n aM aS mm lv) sz) := by
  refine vx_ofW (cc := cX4_term) (maxL := 8) (ret := (some .int)) (by decide) rfl ?_
  intro p e s m args below meth c s₁ B hml htab hv
  obtain ⟨rfl, hsz, hP, hK, hD0, hE⟩ := hv
  subst hsz
  have hx := B.exec
  have hb := B.bytes
  have hr := B.returns
  have hts := atoms_spec (ws := wsX4_term) B.pre
  have hown : s.vm.findClass RX4 = some m.cls := findClass_of_methodNamed B.named
  have hlocks := B.notSynchronized
  have hl := lv_entry ([.ref (hf 0), .int kd, .int a0, .int b0, .int c0]) (n := 8) (Nat.le_of_ble_eq_true rfl)
  rw [lg_entry_eq]
  generalize (lg_sl ([.ref (hf 0), .int kd, .int a0, .int b0, .int c0]) ++ List.replicate (8 - (lg_sl ([.ref (hf 0), .int kd, .int a0, .int b0, .int c0])).length) Slot.unset).toArray = ls at hl ⊢
  have hl : lv_has ls 8 [(0, .ref (hf 0)), (1, .int kd), (2, .int a0), (3, .int b0), (4, .int c0)] := hl
  have hD := hD0.self (sz := s.heap.size)
  generalize hAe : va_A (wF cI hf ad sd aF ms ck aK aA aB aC aP aV aN n aM aS mm lv) s.heap.size = A9 at hD hE ⊢
  have hA : ∀ q : Nat, s.heap.size ≤ q → A9 q := fun q h => by rw [← hAe]; exact Or.inr h
  have hS : va_S A9 s.heap s.heap [] := va_S.rf
  refine lv_aload_n hx hb dX4_term_0 rfl (lv_at hl 0 rfl) ?_
  refine va_get (D := (dC, dI)) (ci := 2) (v := .ref (ad 0)) (C := RX4) (T := TX4) (N := 5) hx hb hts (fun w h => List.mem_cons_of_mem _ (wf_X4 w h)) hown hK hP 0 rfl rfl 0 (by decide) (hts _ (List.mem_cons_of_mem _ wm_fl_X4_10)) (fun _ h9 => h9) rfl dX4_term_1 ?_
  refine lv_iload_n hx hb dX4_term_4 rfl (lv_at hl 1 rfl) ?_
  refine lv_iload_n hx hb dX4_term_5 rfl (lv_at hl 2 rfl) ?_
  refine lv_iload_n hx hb dX4_term_6 rfl (lv_at hl 3 rfl) ?_
  refine lv_iload hx hb dX4_term_7 (lv_at hl 4 rfl) ?_
  refine vp_callSi (W.runV (C := RX3) (b := ad 0) (As := [.int kd, .int a0, .int b0, .int c0]) (rest := []) ⟨hx, hb, hml, hown, hts⟩ (ctX3_allows l dC dI cI ad aK aA aB aC aP aV aN n hn fk hk hk2 kd a0 b0 c0) (cwV 4 hts (wA_wsV wm_ml_X4_35 wm_im_X3_allows wm_se_X3_allows wm_in_X3 wm_cd_X3_allows) rfl rfl rfl (by decide +kernel) ⟨Nat.le_of_ble_eq_true rfl, Nat.le_of_ble_eq_true rfl⟩) ⟨fun a U g mk q => by obtain ⟨q0, qP, qK⟩ := q; exact ⟨q0, qP, va_K.moved (u := U) (U := U.calling g mk a) (Vm.Alike.refl U.vm) qK⟩, va_recv (q := (RX3, TX3, 8)) (q0 := 2) hK hP rfl rfl, fun U hU hW => ⟨rfl, by rw [hU]; exact (hP.sub (ws' := wT cI ad aK aA aB aC aP aV aN n) [2, 3, 4, 5, 6, 7, 8, 9] rfl), va_K.moved hW.alike hK⟩⟩ rfl rfl hl.1 rfl (lv_room (Nat.le_of_ble_eq_true rfl)) dX4_term_9 ⟨Nat.zero_le _, Nat.zero_le _⟩) (fun r1 er1 => ?_)
  rcases er1 with ⟨-, hy⟩ | ⟨rfl, -⟩
  · exact absurd hy hno
  refine lv_if_ne (tgt := 25) hx hb dX4_term_12 (by decide) (fun h2 => absurd (by decide) h2) (fun _ => ?_)
  exact tx_throw (D := (dC, dI)) (cl := vwCl) (is := 41) (text := "no such kind, or a part that is not as the kind says") wm_cl_X4_39 wm_in_IllegalArgumentException (by decide) Bundle.six_0 Bundle.six_1 Bundle.six_2 Bundle.six_5 tx_wI tx_cI tx_gI (tx_hI hE) hx hb hl9 hown hts (by decide) hE hP hS (hl.1.trans hml.symm) dX4_term_15 dX4_term_18 dX4_term_19 dX4_term_21 dX4_term_24 htab (Nat.le_of_ble_eq_true rfl) (Nat.le_of_ble_eq_true rfl) (Nat.le_of_ble_eq_true rfl) (Nat.le_of_ble_eq_true rfl) hlocks (Nat.le_refl _) (Nat.le_refl _)
set_option maxHeartbeats 4000000 in
set_option maxRecDepth 100000 in
theorem ctX4_term1 (sz : Nat) (hn : n ≤ 12) (fk fa fb fc : Nat → Nat) (hk : ∀ t, t < n → aK t = nI (fk t)) (ha : ∀ t, t < n → aA t = nI (fa t)) (hbb : ∀ t, t < n → aB t = nI (fb t)) (hc : ∀ t, t < n → aC t = nI (fc t)) (hT : pv_TI fk fa fb fc n) (kd a0 b0 c0 : Int32) (κ α β γ : Nat) (harg : pq_arg fk n kd a0 b0 c0 κ α β γ) (t : Nat) (hfd : pq_fd fk fa fb fc κ α β γ n 0 = some t) : Met l yX4_term wsX4_term ({ frames := 6, cells := 0, slots := 0, locals := 100 }) (va_Pc [.ref (hf 0), .int kd, .int a0, .int b0, .int c0] (fun U => U.heap.size = sz ∧ va_P (dC, dI) vwCl (wF cI hf ad sd aF ms ck aK aA aB aC aP aV aN n aM aS mm lv) U.heap ∧ va_K (dC, dI) vwCl [(cI, .int)] U ∧ va_D (fun _ => True) (wF cI hf ad sd aF ms ck aK aA aB aC aP aV aN n aM aS mm lv))) (va_Qi (fun r _ => r = nI t) (fun (u : Unit) t9 => va_P (dC, dI) vwCl (wF cI hf ad sd aF ms ck aK aA aB aC aP aV aN n aM aS mm lv) t9.heap ∧ va_K (dC, dI) vwCl [(cI, .int)] t9 ∧ va_D (va_A (wF cI hf ad sd aF ms ck aK aA aB aC aP aV aN n aM aS mm lv) sz) (wF cI hf ad sd aF ms ck aK aA aB aC aP aV aN n aM aS mm lv)) (va_A (wF cI hf ad sd aF ms ck aK aA aB aC aP aV aN n aM aS mm lv) sz)) 0 0 (va_A (wF cI hf ad sd aF ms ck aK aA aB aC aP aV aN n aM aS mm lv) sz) := by
  refine Met.ofW (cc := cX4_term) (maxL := 8) (ret := (some .int)) (by decide) rfl ?_
  intro p e s m args below meth c s₁ B hml hv
  obtain ⟨rfl, hsz, hP, hK, hD0⟩ := hv
  subst hsz
  have hx := B.exec
  have hb := B.bytes
  have hr := B.returns
  have hts := atoms_spec (ws := wsX4_term) B.pre
  have hown : s.vm.findClass RX4 = some m.cls := findClass_of_methodNamed B.named
  have hlocks := B.notSynchronized
  have hl := lv_entry ([.ref (hf 0), .int kd, .int a0, .int b0, .int c0]) (n := 8) (Nat.le_of_ble_eq_true rfl)
  rw [lg_entry_eq]
  generalize (lg_sl ([.ref (hf 0), .int kd, .int a0, .int b0, .int c0]) ++ List.replicate (8 - (lg_sl ([.ref (hf 0), .int kd, .int a0, .int b0, .int c0])).length) Slot.unset).toArray = ls at hl ⊢
  have hl : lv_has ls 8 [(0, .ref (hf 0)), (1, .int kd), (2, .int a0), (3, .int b0), (4, .int c0)] := hl
  have hD := hD0.self (sz := s.heap.size)
  generalize hAe : va_A (wF cI hf ad sd aF ms ck aK aA aB aC aP aV aN n aM aS mm lv) s.heap.size = A9 at hD ⊢
  have hA : ∀ q : Nat, s.heap.size ≤ q → A9 q := fun q h => by rw [← hAe]; exact Or.inr h
  have hS : va_S A9 s.heap s.heap [] := va_S.rf
  have halw := pq_arg_alw harg
  obtain ⟨hκ, ekd, hα, ea0, f1, hβ, eb0, f2, hγ, ec0, f3⟩ := harg
  subst ekd
  subst ea0
  have s1 := pv_s1_le κ
  have s2 := pv_s2_le κ
  have s3 := pv_s3_le κ
  have htn : t < n := pq_fd_lt n 0 t (by omega) hfd
  refine lv_aload_n hx hb dX4_term_0 rfl (lv_at hl 0 rfl) ?_
  refine va_get (D := (dC, dI)) (ci := 2) (v := .ref (ad 0)) (C := RX4) (T := TX4) (N := 5) hx hb hts (fun w h => List.mem_cons_of_mem _ (wf_X4 w h)) hown hK hP 0 rfl rfl 0 (by decide) (hts _ (List.mem_cons_of_mem _ wm_fl_X4_10)) (fun _ h9 => h9) rfl dX4_term_1 ?_
  refine lv_iload_n hx hb dX4_term_4 rfl (lv_at hl 1 rfl) ?_
  refine lv_iload_n hx hb dX4_term_5 rfl (lv_at hl 2 rfl) ?_
  refine lv_iload_n hx hb dX4_term_6 rfl (lv_at hl 3 rfl) ?_
  refine lv_iload hx hb dX4_term_7 (lv_at hl 4 rfl) ?_
  refine vp_callSi (W.runV (C := RX3) (b := ad 0) (As := [.int (nI κ), .int (nI α), .int b0, .int c0]) (rest := []) ⟨hx, hb, hml, hown, hts⟩ (ctX3_allows l dC dI cI ad aK aA aB aC aP aV aN n hn fk hk (fun t ht => pt_k20 hT ht) (nI κ) (nI α) b0 c0) (cwV 4 hts (wA_wsV wm_ml_X4_35 wm_im_X3_allows wm_se_X3_allows wm_in_X3 wm_cd_X3_allows) rfl rfl rfl (by decide +kernel) ⟨Nat.le_of_ble_eq_true rfl, Nat.le_of_ble_eq_true rfl⟩) ⟨fun a U g mk q => by obtain ⟨q0, qP, qK⟩ := q; exact ⟨q0, qP, va_K.moved (u := U) (U := U.calling g mk a) (Vm.Alike.refl U.vm) qK⟩, va_recv (q := (RX3, TX3, 8)) (q0 := 2) hK hP rfl rfl, fun U hU hW => ⟨rfl, by rw [hU]; exact (hP.sub (ws' := wT cI ad aK aA aB aC aP aV aN n) [2, 3, 4, 5, 6, 7, 8, 9] rfl), va_K.moved hW.alike hK⟩⟩ rfl rfl hl.1 rfl (lv_room (Nat.le_of_ble_eq_true rfl)) dX4_term_9 ⟨Nat.zero_le _, Nat.zero_le _⟩) (fun r1 er1 => ?_)
  rcases Or.symm er1 with ⟨-, hy⟩ | ⟨rfl, -⟩
  · exact absurd halw hy
  refine lv_if_ne (tgt := 25) hx hb dX4_term_12 (by decide) (fun _ => ?_) (fun h2 => absurd h2 (by decide))
  refine lv_iload_n hx hb dX4_term_25 rfl (lv_at hl 1 rfl) ?_
  refine vp_callSi (W.runS (As := [.int (nI κ)]) (rest := []) ⟨hx, hb, hml, hown, hts⟩ (ctX2_ofSecond l (nI κ)) (va_cwS 1 hts (wA_wsS wm_ml_X4_46 wm_st_X2_ofSecond wm_in_X2 wm_cd_X2_ofSecond) rfl rfl rfl (by decide +kernel) ⟨Nat.le_of_ble_eq_true rfl, Nat.le_of_ble_eq_true rfl⟩) ⟨fun a U g mk q => q, fun U hU hW => ⟨rfl, trivial⟩⟩ rfl rfl hl.1 rfl (lv_room (Nat.le_of_ble_eq_true rfl)) dX4_term_26 ⟨Nat.zero_le _, Nat.zero_le _⟩) (fun r3 er3 => ?_)
  rw [px_s2_n hκ] at er3
  subst er3
  refine lv_if_ne (tgt := 36) hx hb dX4_term_29 (by decide) (fun h4 => ?_) (fun h4 => ?_)
  · skip
    have h4 : ¬ pv_s2 κ = 0 := fun z => h4 ((nI_eq (a := (pv_s2 κ)) (b := 0) (by omega) (by omega)).mpr z)
    have eb1 := eb0 h4
    subst eb1
    refine lv_iload_n hx hb dX4_term_36 rfl (lv_at hl 3 rfl) ?_
    refine lv_istore (lv' := [(5, .int (nI β)), (0, .ref (hf 0)), (1, .int (nI κ)), (2, .int (nI α)), (3, .int (nI β)), (4, .int c0)]) hx hb dX4_term_37 hl (by decide) rfl (fun ls hl => ?_)
    refine lv_iload_n hx hb dX4_term_39 rfl (lv_at hl 2 rfl) ?_
    refine vp_callSi (W.runS (As := [.int (nI κ)]) (rest := []) ⟨hx, hb, hml, hown, hts⟩ (ctX2_ofThird l (nI κ)) (va_cwS 1 hts (wA_wsS wm_ml_X4_52 wm_st_X2_ofThird wm_in_X2 wm_cd_X2_ofThird) rfl rfl rfl (by decide +kernel) ⟨Nat.le_of_ble_eq_true rfl, Nat.le_of_ble_eq_true rfl⟩) ⟨fun a U g mk q => q, fun U hU hW => ⟨rfl, trivial⟩⟩ rfl rfl hl.1 rfl (lv_room (Nat.le_of_ble_eq_true rfl)) dX4_term_40 ⟨Nat.zero_le _, Nat.zero_le _⟩) (fun r5 er5 => ?_)
    rw [px_s3_n hκ] at er5
    subst er5
    refine lv_if_ne (tgt := 50) hx hb dX4_term_43 (by decide) (fun h6 => ?_) (fun h6 => ?_)
    · skip
      have h6 : ¬ pv_s3 κ = 0 := fun z => h6 ((nI_eq (a := (pv_s3 κ)) (b := 0) (by omega) (by omega)).mpr z)
      have ec1 := ec0 h6
      subst ec1
      refine lv_iload hx hb dX4_term_50 (lv_at hl 5 rfl) ?_
      refine lv_istore (lv' := [(6, .int (nI γ)), (5, .int (nI β)), (0, .ref (hf 0)), (1, .int (nI κ)), (2, .int (nI α)), (3, .int (nI β)), (4, .int (nI γ))]) hx hb dX4_term_52 hl (by decide) rfl (fun ls hl => ?_)
      refine lv_aload_n hx hb dX4_term_54 rfl (lv_at hl 2 rfl) ?_
      refine va_get (D := (dC, dI)) (ci := 2) (v := .ref (ad 0)) (C := RX4) (T := TX4) (N := 5) hx hb hts (fun w h => List.mem_cons_of_mem _ (wf_X4 w h)) hown hK hP 0 rfl rfl 0 (by decide) (hts _ (List.mem_cons_of_mem _ wm_fl_X4_10)) (fun _ h9 => h9) rfl dX4_term_55 ?_
      refine lv_iload_n hx hb dX4_term_58 rfl (lv_at hl 3 rfl) ?_
      refine lv_iload_n hx hb dX4_term_59 rfl (lv_at hl 4 rfl) ?_
      refine lv_iload hx hb dX4_term_60 (lv_at hl 1 rfl) ?_
      refine lv_iload hx hb dX4_term_62 (lv_at hl 0 rfl) ?_
      refine vp_callSi (W.runV (C := RX3) (b := ad 0) (As := [.int (nI κ), .int (nI α), .int (nI β), .int (nI γ)]) (rest := []) ⟨hx, hb, hml, hown, hts⟩ (ctX3_find l dC dI cI ad aK aA aB aC aP aV aN n hn fk fa fb fc hk ha hbb hc hT κ α β γ hκ hα hβ hγ) (cwV 4 hts (wA_wsV wm_ml_X4_55 wm_im_X3_find wm_se_X3_find wm_in_X3 wm_cd_X3_find) rfl rfl rfl (by decide +kernel) ⟨Nat.le_of_ble_eq_true rfl, Nat.le_of_ble_eq_true rfl⟩) ⟨fun a U g mk q => by obtain ⟨q0, qP, qK⟩ := q; exact ⟨q0, qP, va_K.moved (u := U) (U := U.calling g mk a) (Vm.Alike.refl U.vm) qK⟩, va_recv (q := (RX3, TX3, 8)) (q0 := 2) hK hP rfl rfl, fun U hU hW => ⟨rfl, by rw [hU]; exact (hP.sub (ws' := wT cI ad aK aA aB aC aP aV aN n) [2, 3, 4, 5, 6, 7, 8, 9] rfl), va_K.moved hW.alike hK⟩⟩ rfl rfl hl.1 rfl (lv_room (Nat.le_of_ble_eq_true rfl)) dX4_term_64 ⟨Nat.zero_le _, Nat.zero_le _⟩) (fun r7 er7 => ?_)
      rw [hfd] at er7
      have er7 : r7 = nI t := er7
      subst er7
      refine lv_istore (lv' := [(7, .int (nI t)), (6, .int (nI γ)), (5, .int (nI β)), (0, .ref (hf 0)), (1, .int (nI κ)), (2, .int (nI α)), (3, .int (nI β)), (4, .int (nI γ))]) hx hb dX4_term_67 hl (by decide) rfl (fun ls hl => ?_)
      refine lv_iload hx hb dX4_term_69 (lv_at hl 0 rfl) ?_
      refine lv_if_lt (tgt := 77) hx hb dX4_term_71 (by decide) (fun h8 => absurd h8 (nI_nlt (a := t) (b := 0) (by omega) (by omega))) (fun _ => ?_)
      refine lv_iload hx hb dX4_term_74 (lv_at hl 0 rfl) ?_
      exact W.iret (v := nI t) hx hb hr (fun t9 ht9 hW9 => ⟨⟨nI t, (), rfl, rfl, by rw [ht9]; exact hP, va_K.moved hW9.alike hK, hD⟩, hS.F ht9⟩) hS.2.2 dX4_term_76
    · skip
      have h6 : pv_s3 κ = 0 := (nI_eq (a := (pv_s3 κ)) (b := 0) (by omega) (by omega)).mp h6
      have ec1 : γ = 0 := f3.1 h6
      refine lv_iconst (v := 0) hx hb dX4_term_46 (by decide) ?_
      refine lv_goto (tgt := 52) hx hb dX4_term_47 (by decide) ?_
      rw [show (0 : Int32) = nI γ by rw [ec1]; rfl]
      refine lv_istore (lv' := [(6, .int (nI γ)), (5, .int (nI β)), (0, .ref (hf 0)), (1, .int (nI κ)), (2, .int (nI α)), (3, .int (nI β)), (4, .int c0)]) hx hb dX4_term_52 hl (by decide) rfl (fun ls hl => ?_)
      refine lv_aload_n hx hb dX4_term_54 rfl (lv_at hl 2 rfl) ?_
      refine va_get (D := (dC, dI)) (ci := 2) (v := .ref (ad 0)) (C := RX4) (T := TX4) (N := 5) hx hb hts (fun w h => List.mem_cons_of_mem _ (wf_X4 w h)) hown hK hP 0 rfl rfl 0 (by decide) (hts _ (List.mem_cons_of_mem _ wm_fl_X4_10)) (fun _ h9 => h9) rfl dX4_term_55 ?_
      refine lv_iload_n hx hb dX4_term_58 rfl (lv_at hl 3 rfl) ?_
      refine lv_iload_n hx hb dX4_term_59 rfl (lv_at hl 4 rfl) ?_
      refine lv_iload hx hb dX4_term_60 (lv_at hl 1 rfl) ?_
      refine lv_iload hx hb dX4_term_62 (lv_at hl 0 rfl) ?_
      refine vp_callSi (W.runV (C := RX3) (b := ad 0) (As := [.int (nI κ), .int (nI α), .int (nI β), .int (nI γ)]) (rest := []) ⟨hx, hb, hml, hown, hts⟩ (ctX3_find l dC dI cI ad aK aA aB aC aP aV aN n hn fk fa fb fc hk ha hbb hc hT κ α β γ hκ hα hβ hγ) (cwV 4 hts (wA_wsV wm_ml_X4_55 wm_im_X3_find wm_se_X3_find wm_in_X3 wm_cd_X3_find) rfl rfl rfl (by decide +kernel) ⟨Nat.le_of_ble_eq_true rfl, Nat.le_of_ble_eq_true rfl⟩) ⟨fun a U g mk q => by obtain ⟨q0, qP, qK⟩ := q; exact ⟨q0, qP, va_K.moved (u := U) (U := U.calling g mk a) (Vm.Alike.refl U.vm) qK⟩, va_recv (q := (RX3, TX3, 8)) (q0 := 2) hK hP rfl rfl, fun U hU hW => ⟨rfl, by rw [hU]; exact (hP.sub (ws' := wT cI ad aK aA aB aC aP aV aN n) [2, 3, 4, 5, 6, 7, 8, 9] rfl), va_K.moved hW.alike hK⟩⟩ rfl rfl hl.1 rfl (lv_room (Nat.le_of_ble_eq_true rfl)) dX4_term_64 ⟨Nat.zero_le _, Nat.zero_le _⟩) (fun r9 er9 => ?_)
      rw [hfd] at er9
      have er9 : r9 = nI t := er9
      subst er9
      refine lv_istore (lv' := [(7, .int (nI t)), (6, .int (nI γ)), (5, .int (nI β)), (0, .ref (hf 0)), (1, .int (nI κ)), (2, .int (nI α)), (3, .int (nI β)), (4, .int c0)]) hx hb dX4_term_67 hl (by decide) rfl (fun ls hl => ?_)
      refine lv_iload hx hb dX4_term_69 (lv_at hl 0 rfl) ?_
      refine lv_if_lt (tgt := 77) hx hb dX4_term_71 (by decide) (fun h10 => absurd h10 (nI_nlt (a := t) (b := 0) (by omega) (by omega))) (fun _ => ?_)
      refine lv_iload hx hb dX4_term_74 (lv_at hl 0 rfl) ?_
      exact W.iret (v := nI t) hx hb hr (fun t9 ht9 hW9 => ⟨⟨nI t, (), rfl, rfl, by rw [ht9]; exact hP, va_K.moved hW9.alike hK, hD⟩, hS.F ht9⟩) hS.2.2 dX4_term_76
  · skip
    have h4 : pv_s2 κ = 0 := (nI_eq (a := (pv_s2 κ)) (b := 0) (by omega) (by omega)).mp h4
    have eb1 : β = 0 := f2.1 h4
    refine lv_iconst (v := 0) hx hb dX4_term_32 (by decide) ?_
    refine lv_goto (tgt := 37) hx hb dX4_term_33 (by decide) ?_
    rw [show (0 : Int32) = nI β by rw [eb1]; rfl]
    refine lv_istore (lv' := [(5, .int (nI β)), (0, .ref (hf 0)), (1, .int (nI κ)), (2, .int (nI α)), (3, .int b0), (4, .int c0)]) hx hb dX4_term_37 hl (by decide) rfl (fun ls hl => ?_)
    refine lv_iload_n hx hb dX4_term_39 rfl (lv_at hl 2 rfl) ?_
    refine vp_callSi (W.runS (As := [.int (nI κ)]) (rest := []) ⟨hx, hb, hml, hown, hts⟩ (ctX2_ofThird l (nI κ)) (va_cwS 1 hts (wA_wsS wm_ml_X4_52 wm_st_X2_ofThird wm_in_X2 wm_cd_X2_ofThird) rfl rfl rfl (by decide +kernel) ⟨Nat.le_of_ble_eq_true rfl, Nat.le_of_ble_eq_true rfl⟩) ⟨fun a U g mk q => q, fun U hU hW => ⟨rfl, trivial⟩⟩ rfl rfl hl.1 rfl (lv_room (Nat.le_of_ble_eq_true rfl)) dX4_term_40 ⟨Nat.zero_le _, Nat.zero_le _⟩) (fun r11 er11 => ?_)
    rw [px_s3_n hκ] at er11
    subst er11
    refine lv_if_ne (tgt := 50) hx hb dX4_term_43 (by decide) (fun h12 => ?_) (fun h12 => ?_)
    · skip
      have h12 : ¬ pv_s3 κ = 0 := fun z => h12 ((nI_eq (a := (pv_s3 κ)) (b := 0) (by omega) (by omega)).mpr z)
      have ec1 := ec0 h12
      subst ec1
      refine lv_iload hx hb dX4_term_50 (lv_at hl 5 rfl) ?_
      refine lv_istore (lv' := [(6, .int (nI γ)), (5, .int (nI β)), (0, .ref (hf 0)), (1, .int (nI κ)), (2, .int (nI α)), (3, .int b0), (4, .int (nI γ))]) hx hb dX4_term_52 hl (by decide) rfl (fun ls hl => ?_)
      refine lv_aload_n hx hb dX4_term_54 rfl (lv_at hl 2 rfl) ?_
      refine va_get (D := (dC, dI)) (ci := 2) (v := .ref (ad 0)) (C := RX4) (T := TX4) (N := 5) hx hb hts (fun w h => List.mem_cons_of_mem _ (wf_X4 w h)) hown hK hP 0 rfl rfl 0 (by decide) (hts _ (List.mem_cons_of_mem _ wm_fl_X4_10)) (fun _ h9 => h9) rfl dX4_term_55 ?_
      refine lv_iload_n hx hb dX4_term_58 rfl (lv_at hl 3 rfl) ?_
      refine lv_iload_n hx hb dX4_term_59 rfl (lv_at hl 4 rfl) ?_
      refine lv_iload hx hb dX4_term_60 (lv_at hl 1 rfl) ?_
      refine lv_iload hx hb dX4_term_62 (lv_at hl 0 rfl) ?_
      refine vp_callSi (W.runV (C := RX3) (b := ad 0) (As := [.int (nI κ), .int (nI α), .int (nI β), .int (nI γ)]) (rest := []) ⟨hx, hb, hml, hown, hts⟩ (ctX3_find l dC dI cI ad aK aA aB aC aP aV aN n hn fk fa fb fc hk ha hbb hc hT κ α β γ hκ hα hβ hγ) (cwV 4 hts (wA_wsV wm_ml_X4_55 wm_im_X3_find wm_se_X3_find wm_in_X3 wm_cd_X3_find) rfl rfl rfl (by decide +kernel) ⟨Nat.le_of_ble_eq_true rfl, Nat.le_of_ble_eq_true rfl⟩) ⟨fun a U g mk q => by obtain ⟨q0, qP, qK⟩ := q; exact ⟨q0, qP, va_K.moved (u := U) (U := U.calling g mk a) (Vm.Alike.refl U.vm) qK⟩, va_recv (q := (RX3, TX3, 8)) (q0 := 2) hK hP rfl rfl, fun U hU hW => ⟨rfl, by rw [hU]; exact (hP.sub (ws' := wT cI ad aK aA aB aC aP aV aN n) [2, 3, 4, 5, 6, 7, 8, 9] rfl), va_K.moved hW.alike hK⟩⟩ rfl rfl hl.1 rfl (lv_room (Nat.le_of_ble_eq_true rfl)) dX4_term_64 ⟨Nat.zero_le _, Nat.zero_le _⟩) (fun r13 er13 => ?_)
      rw [hfd] at er13
      have er13 : r13 = nI t := er13
      subst er13
      refine lv_istore (lv' := [(7, .int (nI t)), (6, .int (nI γ)), (5, .int (nI β)), (0, .ref (hf 0)), (1, .int (nI κ)), (2, .int (nI α)), (3, .int b0), (4, .int (nI γ))]) hx hb dX4_term_67 hl (by decide) rfl (fun ls hl => ?_)
      refine lv_iload hx hb dX4_term_69 (lv_at hl 0 rfl) ?_
      refine lv_if_lt (tgt := 77) hx hb dX4_term_71 (by decide) (fun h14 => absurd h14 (nI_nlt (a := t) (b := 0) (by omega) (by omega))) (fun _ => ?_)
      refine lv_iload hx hb dX4_term_74 (lv_at hl 0 rfl) ?_
      exact W.iret (v := nI t) hx hb hr (fun t9 ht9 hW9 => ⟨⟨nI t, (), rfl, rfl, by rw [ht9]; exact hP, va_K.moved hW9.alike hK, hD⟩, hS.F ht9⟩) hS.2.2 dX4_term_76
    · skip
      have h12 : pv_s3 κ = 0 := (nI_eq (a := (pv_s3 κ)) (b := 0) (by omega) (by omega)).mp h12
      have ec1 : γ = 0 := f3.1 h12
      refine lv_iconst (v := 0) hx hb dX4_term_46 (by decide) ?_
      refine lv_goto (tgt := 52) hx hb dX4_term_47 (by decide) ?_
      rw [show (0 : Int32) = nI γ by rw [ec1]; rfl]
      refine lv_istore (lv' := [(6, .int (nI γ)), (5, .int (nI β)), (0, .ref (hf 0)), (1, .int (nI κ)), (2, .int (nI α)), (3, .int b0), (4, .int c0)]) hx hb dX4_term_52 hl (by decide) rfl (fun ls hl => ?_)
      refine lv_aload_n hx hb dX4_term_54 rfl (lv_at hl 2 rfl) ?_
      refine va_get (D := (dC, dI)) (ci := 2) (v := .ref (ad 0)) (C := RX4) (T := TX4) (N := 5) hx hb hts (fun w h => List.mem_cons_of_mem _ (wf_X4 w h)) hown hK hP 0 rfl rfl 0 (by decide) (hts _ (List.mem_cons_of_mem _ wm_fl_X4_10)) (fun _ h9 => h9) rfl dX4_term_55 ?_
      refine lv_iload_n hx hb dX4_term_58 rfl (lv_at hl 3 rfl) ?_
      refine lv_iload_n hx hb dX4_term_59 rfl (lv_at hl 4 rfl) ?_
      refine lv_iload hx hb dX4_term_60 (lv_at hl 1 rfl) ?_
      refine lv_iload hx hb dX4_term_62 (lv_at hl 0 rfl) ?_
      refine vp_callSi (W.runV (C := RX3) (b := ad 0) (As := [.int (nI κ), .int (nI α), .int (nI β), .int (nI γ)]) (rest := []) ⟨hx, hb, hml, hown, hts⟩ (ctX3_find l dC dI cI ad aK aA aB aC aP aV aN n hn fk fa fb fc hk ha hbb hc hT κ α β γ hκ hα hβ hγ) (cwV 4 hts (wA_wsV wm_ml_X4_55 wm_im_X3_find wm_se_X3_find wm_in_X3 wm_cd_X3_find) rfl rfl rfl (by decide +kernel) ⟨Nat.le_of_ble_eq_true rfl, Nat.le_of_ble_eq_true rfl⟩) ⟨fun a U g mk q => by obtain ⟨q0, qP, qK⟩ := q; exact ⟨q0, qP, va_K.moved (u := U) (U := U.calling g mk a) (Vm.Alike.refl U.vm) qK⟩, va_recv (q := (RX3, TX3, 8)) (q0 := 2) hK hP rfl rfl, fun U hU hW => ⟨rfl, by rw [hU]; exact (hP.sub (ws' := wT cI ad aK aA aB aC aP aV aN n) [2, 3, 4, 5, 6, 7, 8, 9] rfl), va_K.moved hW.alike hK⟩⟩ rfl rfl hl.1 rfl (lv_room (Nat.le_of_ble_eq_true rfl)) dX4_term_64 ⟨Nat.zero_le _, Nat.zero_le _⟩) (fun r15 er15 => ?_)
      rw [hfd] at er15
      have er15 : r15 = nI t := er15
      subst er15
      refine lv_istore (lv' := [(7, .int (nI t)), (6, .int (nI γ)), (5, .int (nI β)), (0, .ref (hf 0)), (1, .int (nI κ)), (2, .int (nI α)), (3, .int b0), (4, .int c0)]) hx hb dX4_term_67 hl (by decide) rfl (fun ls hl => ?_)
      refine lv_iload hx hb dX4_term_69 (lv_at hl 0 rfl) ?_
      refine lv_if_lt (tgt := 77) hx hb dX4_term_71 (by decide) (fun h16 => absurd h16 (nI_nlt (a := t) (b := 0) (by omega) (by omega))) (fun _ => ?_)
      refine lv_iload hx hb dX4_term_74 (lv_at hl 0 rfl) ?_
      exact W.iret (v := nI t) hx hb hr (fun t9 ht9 hW9 => ⟨⟨nI t, (), rfl, rfl, by rw [ht9]; exact hP, va_K.moved hW9.alike hK, hD⟩, hS.F ht9⟩) hS.2.2 dX4_term_76
set_option maxHeartbeats 4000000 in
set_option maxRecDepth 100000 in
theorem ctX4_term2 (hl9 : l.stackTraces = false) (sa : Nat → Nat) (sz : Nat) (hn : n ≤ 12) (fk fa fb fc : Nat → Nat) (hk : ∀ t, t < n → aK t = nI (fk t)) (ha : ∀ t, t < n → aA t = nI (fa t)) (hbb : ∀ t, t < n → aB t = nI (fb t)) (hc : ∀ t, t < n → aC t = nI (fc t)) (hT : pv_TI fk fa fb fc n) (kd a0 b0 c0 : Int32) (κ α β γ : Nat) (harg : pq_arg fk n kd a0 b0 c0 κ α β γ) (hfd : pq_fd fk fa fb fc κ α β γ n 0 = none) (hn12 : n = 12) : vx_Met l yX4_term wsX4_term ({ frames := 6, cells := 1, slots := 6, locals := 100 }) (va_Pc [.ref (hf 0), .int kd, .int a0, .int b0, .int c0] (fun U => U.heap.size = sz ∧ va_P (dC, dI) vwCl (wF cI hf ad sd aF ms ck aK aA aB aC aP aV aN n aM aS mm lv) U.heap ∧ va_K (dC, dI) vwCl [(cI, .int)] U ∧ va_D (fun _ => True) (wF cI hf ad sd aF ms ck aK aA aB aC aP aV aN n aM aS mm lv) ∧ tx_E (va_A (wF cI hf ad sd aF ms ck aK aA aB aC aP aV aN n aM aS mm lv) sz) sa U U.heap)) (va_Qi (fun _ (_ : Unit) => False) (fun _ _ => True) (va_A (wF cI hf ad sd aF ms ck aK aA aB aC aP aV aN n aM aS mm lv) sz)) (tx_X "java/lang/IllegalStateException" (dC, dI) vwCl (wF cI hf ad sd aF ms ck aK aA aB aC aP aV aN n aM aS mm lv) (va_A (wF cI hf ad sd aF ms ck aK aA aB aC aP aV aN n aM aS mm lv) sz)) 1 6 (va_A (wF cI hf ad sd aF ms ck aK aA aB aC aP aV aN n aM aS mm lv) sz) := by
  refine vx_ofW (cc := cX4_term) (maxL := 8) (ret := (some .int)) (by decide) rfl ?_
  intro p e s m args below meth c s₁ B hml htab hv
  obtain ⟨rfl, hsz, hP, hK, hD0, hE⟩ := hv
  subst hsz
  have hx := B.exec
  have hb := B.bytes
  have hr := B.returns
  have hts := atoms_spec (ws := wsX4_term) B.pre
  have hown : s.vm.findClass RX4 = some m.cls := findClass_of_methodNamed B.named
  have hlocks := B.notSynchronized
  have hl := lv_entry ([.ref (hf 0), .int kd, .int a0, .int b0, .int c0]) (n := 8) (Nat.le_of_ble_eq_true rfl)
  rw [lg_entry_eq]
  generalize (lg_sl ([.ref (hf 0), .int kd, .int a0, .int b0, .int c0]) ++ List.replicate (8 - (lg_sl ([.ref (hf 0), .int kd, .int a0, .int b0, .int c0])).length) Slot.unset).toArray = ls at hl ⊢
  have hl : lv_has ls 8 [(0, .ref (hf 0)), (1, .int kd), (2, .int a0), (3, .int b0), (4, .int c0)] := hl
  have hD := hD0.self (sz := s.heap.size)
  generalize hAe : va_A (wF cI hf ad sd aF ms ck aK aA aB aC aP aV aN n aM aS mm lv) s.heap.size = A9 at hD hE ⊢
  have hA : ∀ q : Nat, s.heap.size ≤ q → A9 q := fun q h => by rw [← hAe]; exact Or.inr h
  have hS : va_S A9 s.heap s.heap [] := va_S.rf
  have halw := pq_arg_alw harg
  obtain ⟨hκ, ekd, hα, ea0, f1, hβ, eb0, f2, hγ, ec0, f3⟩ := harg
  subst ekd
  subst ea0
  have s1 := pv_s1_le κ
  have s2 := pv_s2_le κ
  have s3 := pv_s3_le κ
  refine lv_aload_n hx hb dX4_term_0 rfl (lv_at hl 0 rfl) ?_
  refine va_get (D := (dC, dI)) (ci := 2) (v := .ref (ad 0)) (C := RX4) (T := TX4) (N := 5) hx hb hts (fun w h => List.mem_cons_of_mem _ (wf_X4 w h)) hown hK hP 0 rfl rfl 0 (by decide) (hts _ (List.mem_cons_of_mem _ wm_fl_X4_10)) (fun _ h9 => h9) rfl dX4_term_1 ?_
  refine lv_iload_n hx hb dX4_term_4 rfl (lv_at hl 1 rfl) ?_
  refine lv_iload_n hx hb dX4_term_5 rfl (lv_at hl 2 rfl) ?_
  refine lv_iload_n hx hb dX4_term_6 rfl (lv_at hl 3 rfl) ?_
  refine lv_iload hx hb dX4_term_7 (lv_at hl 4 rfl) ?_
  refine vp_callSi (W.runV (C := RX3) (b := ad 0) (As := [.int (nI κ), .int (nI α), .int b0, .int c0]) (rest := []) ⟨hx, hb, hml, hown, hts⟩ (ctX3_allows l dC dI cI ad aK aA aB aC aP aV aN n hn fk hk (fun t ht => pt_k20 hT ht) (nI κ) (nI α) b0 c0) (cwV 4 hts (wA_wsV wm_ml_X4_35 wm_im_X3_allows wm_se_X3_allows wm_in_X3 wm_cd_X3_allows) rfl rfl rfl (by decide +kernel) ⟨Nat.le_of_ble_eq_true rfl, Nat.le_of_ble_eq_true rfl⟩) ⟨fun a U g mk q => by obtain ⟨q0, qP, qK⟩ := q; exact ⟨q0, qP, va_K.moved (u := U) (U := U.calling g mk a) (Vm.Alike.refl U.vm) qK⟩, va_recv (q := (RX3, TX3, 8)) (q0 := 2) hK hP rfl rfl, fun U hU hW => ⟨rfl, by rw [hU]; exact (hP.sub (ws' := wT cI ad aK aA aB aC aP aV aN n) [2, 3, 4, 5, 6, 7, 8, 9] rfl), va_K.moved hW.alike hK⟩⟩ rfl rfl hl.1 rfl (lv_room (Nat.le_of_ble_eq_true rfl)) dX4_term_9 ⟨Nat.zero_le _, Nat.zero_le _⟩) (fun r1 er1 => ?_)
  rcases Or.symm er1 with ⟨-, hy⟩ | ⟨rfl, -⟩
  · exact absurd halw hy
  refine lv_if_ne (tgt := 25) hx hb dX4_term_12 (by decide) (fun _ => ?_) (fun h2 => absurd h2 (by decide))
  refine lv_iload_n hx hb dX4_term_25 rfl (lv_at hl 1 rfl) ?_
  refine vp_callSi (W.runS (As := [.int (nI κ)]) (rest := []) ⟨hx, hb, hml, hown, hts⟩ (ctX2_ofSecond l (nI κ)) (va_cwS 1 hts (wA_wsS wm_ml_X4_46 wm_st_X2_ofSecond wm_in_X2 wm_cd_X2_ofSecond) rfl rfl rfl (by decide +kernel) ⟨Nat.le_of_ble_eq_true rfl, Nat.le_of_ble_eq_true rfl⟩) ⟨fun a U g mk q => q, fun U hU hW => ⟨rfl, trivial⟩⟩ rfl rfl hl.1 rfl (lv_room (Nat.le_of_ble_eq_true rfl)) dX4_term_26 ⟨Nat.zero_le _, Nat.zero_le _⟩) (fun r3 er3 => ?_)
  rw [px_s2_n hκ] at er3
  subst er3
  refine lv_if_ne (tgt := 36) hx hb dX4_term_29 (by decide) (fun h4 => ?_) (fun h4 => ?_)
  · skip
    have h4 : ¬ pv_s2 κ = 0 := fun z => h4 ((nI_eq (a := (pv_s2 κ)) (b := 0) (by omega) (by omega)).mpr z)
    have eb1 := eb0 h4
    subst eb1
    refine lv_iload_n hx hb dX4_term_36 rfl (lv_at hl 3 rfl) ?_
    refine lv_istore (lv' := [(5, .int (nI β)), (0, .ref (hf 0)), (1, .int (nI κ)), (2, .int (nI α)), (3, .int (nI β)), (4, .int c0)]) hx hb dX4_term_37 hl (by decide) rfl (fun ls hl => ?_)
    refine lv_iload_n hx hb dX4_term_39 rfl (lv_at hl 2 rfl) ?_
    refine vp_callSi (W.runS (As := [.int (nI κ)]) (rest := []) ⟨hx, hb, hml, hown, hts⟩ (ctX2_ofThird l (nI κ)) (va_cwS 1 hts (wA_wsS wm_ml_X4_52 wm_st_X2_ofThird wm_in_X2 wm_cd_X2_ofThird) rfl rfl rfl (by decide +kernel) ⟨Nat.le_of_ble_eq_true rfl, Nat.le_of_ble_eq_true rfl⟩) ⟨fun a U g mk q => q, fun U hU hW => ⟨rfl, trivial⟩⟩ rfl rfl hl.1 rfl (lv_room (Nat.le_of_ble_eq_true rfl)) dX4_term_40 ⟨Nat.zero_le _, Nat.zero_le _⟩) (fun r5 er5 => ?_)
    rw [px_s3_n hκ] at er5
    subst er5
    refine lv_if_ne (tgt := 50) hx hb dX4_term_43 (by decide) (fun h6 => ?_) (fun h6 => ?_)
    · skip
      have h6 : ¬ pv_s3 κ = 0 := fun z => h6 ((nI_eq (a := (pv_s3 κ)) (b := 0) (by omega) (by omega)).mpr z)
      have ec1 := ec0 h6
      subst ec1
      refine lv_iload hx hb dX4_term_50 (lv_at hl 5 rfl) ?_
      refine lv_istore (lv' := [(6, .int (nI γ)), (5, .int (nI β)), (0, .ref (hf 0)), (1, .int (nI κ)), (2, .int (nI α)), (3, .int (nI β)), (4, .int (nI γ))]) hx hb dX4_term_52 hl (by decide) rfl (fun ls hl => ?_)
      refine lv_aload_n hx hb dX4_term_54 rfl (lv_at hl 2 rfl) ?_
      refine va_get (D := (dC, dI)) (ci := 2) (v := .ref (ad 0)) (C := RX4) (T := TX4) (N := 5) hx hb hts (fun w h => List.mem_cons_of_mem _ (wf_X4 w h)) hown hK hP 0 rfl rfl 0 (by decide) (hts _ (List.mem_cons_of_mem _ wm_fl_X4_10)) (fun _ h9 => h9) rfl dX4_term_55 ?_
      refine lv_iload_n hx hb dX4_term_58 rfl (lv_at hl 3 rfl) ?_
      refine lv_iload_n hx hb dX4_term_59 rfl (lv_at hl 4 rfl) ?_
      refine lv_iload hx hb dX4_term_60 (lv_at hl 1 rfl) ?_
      refine lv_iload hx hb dX4_term_62 (lv_at hl 0 rfl) ?_
      refine vp_callSi (W.runV (C := RX3) (b := ad 0) (As := [.int (nI κ), .int (nI α), .int (nI β), .int (nI γ)]) (rest := []) ⟨hx, hb, hml, hown, hts⟩ (ctX3_find l dC dI cI ad aK aA aB aC aP aV aN n hn fk fa fb fc hk ha hbb hc hT κ α β γ hκ hα hβ hγ) (cwV 4 hts (wA_wsV wm_ml_X4_55 wm_im_X3_find wm_se_X3_find wm_in_X3 wm_cd_X3_find) rfl rfl rfl (by decide +kernel) ⟨Nat.le_of_ble_eq_true rfl, Nat.le_of_ble_eq_true rfl⟩) ⟨fun a U g mk q => by obtain ⟨q0, qP, qK⟩ := q; exact ⟨q0, qP, va_K.moved (u := U) (U := U.calling g mk a) (Vm.Alike.refl U.vm) qK⟩, va_recv (q := (RX3, TX3, 8)) (q0 := 2) hK hP rfl rfl, fun U hU hW => ⟨rfl, by rw [hU]; exact (hP.sub (ws' := wT cI ad aK aA aB aC aP aV aN n) [2, 3, 4, 5, 6, 7, 8, 9] rfl), va_K.moved hW.alike hK⟩⟩ rfl rfl hl.1 rfl (lv_room (Nat.le_of_ble_eq_true rfl)) dX4_term_64 ⟨Nat.zero_le _, Nat.zero_le _⟩) (fun r7 er7 => ?_)
      rw [hfd] at er7
      have er7 : r7 = -1 := er7
      subst er7
      refine lv_istore (lv' := [(7, .int (-1)), (6, .int (nI γ)), (5, .int (nI β)), (0, .ref (hf 0)), (1, .int (nI κ)), (2, .int (nI α)), (3, .int (nI β)), (4, .int (nI γ))]) hx hb dX4_term_67 hl (by decide) rfl (fun ls hl => ?_)
      refine lv_iload hx hb dX4_term_69 (lv_at hl 0 rfl) ?_
      refine lv_if_lt (tgt := 77) hx hb dX4_term_71 (by decide) (fun _ => ?_) (fun h8 => absurd (by decide) h8)
      refine lv_aload_n hx hb dX4_term_77 rfl (lv_at hl 3 rfl) ?_
      refine va_get (D := (dC, dI)) (ci := 2) (v := .ref (ad 0)) (C := RX4) (T := TX4) (N := 5) hx hb hts (fun w h => List.mem_cons_of_mem _ (wf_X4 w h)) hown hK hP 0 rfl rfl 0 (by decide) (hts _ (List.mem_cons_of_mem _ wm_fl_X4_10)) (fun _ h9 => h9) rfl dX4_term_78 ?_
      refine vp_callSi (W.runV (C := RX3) (b := ad 0) (As := []) (rest := []) ⟨hx, hb, hml, hown, hts⟩ (ctX3_isFull l dC dI cI ad aK aA aB aC aP aV aN n (by omega)) (cwV 0 hts (wA_wsV wm_ml_X4_59 wm_im_X3_isFull wm_se_X3_isFull wm_in_X3 wm_cd_X3_isFull) rfl rfl rfl (by decide +kernel) ⟨Nat.le_of_ble_eq_true rfl, Nat.le_of_ble_eq_true rfl⟩) ⟨fun a U g mk q => by obtain ⟨q0, qP, qK⟩ := q; exact ⟨q0, qP, va_K.moved (u := U) (U := U.calling g mk a) (Vm.Alike.refl U.vm) qK⟩, va_recv (q := (RX3, TX3, 8)) (q0 := 2) hK hP rfl rfl, fun U hU hW => ⟨rfl, by rw [hU]; exact (hP.sub (ws' := wT cI ad aK aA aB aC aP aV aN n) [2, 3, 4, 5, 6, 7, 8, 9] rfl), va_K.moved hW.alike hK⟩⟩ rfl rfl hl.1 rfl (lv_room (Nat.le_of_ble_eq_true rfl)) dX4_term_81 ⟨Nat.zero_le _, Nat.zero_le _⟩) (fun r9 er9 => ?_)
      rcases er9 with ⟨-, hy⟩ | ⟨rfl, -⟩
      · exact absurd hy (by omega)
      refine lv_if_eq (tgt := 97) hx hb dX4_term_84 (by decide) (fun h10 => absurd h10 (by decide)) (fun _ => ?_)
      exact tx_throw (D := (dC, dI)) (cl := vwCl) (is := 65) (text := "there are twelve terms") wm_cl_X4_63 wm_in_IllegalStateException (by decide) Bundle.six_0 Bundle.six_1 Bundle.six_2 Bundle.six_5 tx_wG tx_cG tx_gG (tx_hG hE) hx hb hl9 hown hts (by decide) hE hP hS (hl.1.trans hml.symm) dX4_term_87 dX4_term_90 dX4_term_91 dX4_term_93 dX4_term_96 htab (Nat.le_of_ble_eq_true rfl) (Nat.le_of_ble_eq_true rfl) (Nat.le_of_ble_eq_true rfl) (Nat.le_of_ble_eq_true rfl) hlocks (Nat.le_refl _) (Nat.le_refl _)
    · skip
      have h6 : pv_s3 κ = 0 := (nI_eq (a := (pv_s3 κ)) (b := 0) (by omega) (by omega)).mp h6
      have ec1 : γ = 0 := f3.1 h6
      refine lv_iconst (v := 0) hx hb dX4_term_46 (by decide) ?_
      refine lv_goto (tgt := 52) hx hb dX4_term_47 (by decide) ?_
      rw [show (0 : Int32) = nI γ by rw [ec1]; rfl]
      refine lv_istore (lv' := [(6, .int (nI γ)), (5, .int (nI β)), (0, .ref (hf 0)), (1, .int (nI κ)), (2, .int (nI α)), (3, .int (nI β)), (4, .int c0)]) hx hb dX4_term_52 hl (by decide) rfl (fun ls hl => ?_)
      refine lv_aload_n hx hb dX4_term_54 rfl (lv_at hl 2 rfl) ?_
      refine va_get (D := (dC, dI)) (ci := 2) (v := .ref (ad 0)) (C := RX4) (T := TX4) (N := 5) hx hb hts (fun w h => List.mem_cons_of_mem _ (wf_X4 w h)) hown hK hP 0 rfl rfl 0 (by decide) (hts _ (List.mem_cons_of_mem _ wm_fl_X4_10)) (fun _ h9 => h9) rfl dX4_term_55 ?_
      refine lv_iload_n hx hb dX4_term_58 rfl (lv_at hl 3 rfl) ?_
      refine lv_iload_n hx hb dX4_term_59 rfl (lv_at hl 4 rfl) ?_
      refine lv_iload hx hb dX4_term_60 (lv_at hl 1 rfl) ?_
      refine lv_iload hx hb dX4_term_62 (lv_at hl 0 rfl) ?_
      refine vp_callSi (W.runV (C := RX3) (b := ad 0) (As := [.int (nI κ), .int (nI α), .int (nI β), .int (nI γ)]) (rest := []) ⟨hx, hb, hml, hown, hts⟩ (ctX3_find l dC dI cI ad aK aA aB aC aP aV aN n hn fk fa fb fc hk ha hbb hc hT κ α β γ hκ hα hβ hγ) (cwV 4 hts (wA_wsV wm_ml_X4_55 wm_im_X3_find wm_se_X3_find wm_in_X3 wm_cd_X3_find) rfl rfl rfl (by decide +kernel) ⟨Nat.le_of_ble_eq_true rfl, Nat.le_of_ble_eq_true rfl⟩) ⟨fun a U g mk q => by obtain ⟨q0, qP, qK⟩ := q; exact ⟨q0, qP, va_K.moved (u := U) (U := U.calling g mk a) (Vm.Alike.refl U.vm) qK⟩, va_recv (q := (RX3, TX3, 8)) (q0 := 2) hK hP rfl rfl, fun U hU hW => ⟨rfl, by rw [hU]; exact (hP.sub (ws' := wT cI ad aK aA aB aC aP aV aN n) [2, 3, 4, 5, 6, 7, 8, 9] rfl), va_K.moved hW.alike hK⟩⟩ rfl rfl hl.1 rfl (lv_room (Nat.le_of_ble_eq_true rfl)) dX4_term_64 ⟨Nat.zero_le _, Nat.zero_le _⟩) (fun r11 er11 => ?_)
      rw [hfd] at er11
      have er11 : r11 = -1 := er11
      subst er11
      refine lv_istore (lv' := [(7, .int (-1)), (6, .int (nI γ)), (5, .int (nI β)), (0, .ref (hf 0)), (1, .int (nI κ)), (2, .int (nI α)), (3, .int (nI β)), (4, .int c0)]) hx hb dX4_term_67 hl (by decide) rfl (fun ls hl => ?_)
      refine lv_iload hx hb dX4_term_69 (lv_at hl 0 rfl) ?_
      refine lv_if_lt (tgt := 77) hx hb dX4_term_71 (by decide) (fun _ => ?_) (fun h12 => absurd (by decide) h12)
      refine lv_aload_n hx hb dX4_term_77 rfl (lv_at hl 3 rfl) ?_
      refine va_get (D := (dC, dI)) (ci := 2) (v := .ref (ad 0)) (C := RX4) (T := TX4) (N := 5) hx hb hts (fun w h => List.mem_cons_of_mem _ (wf_X4 w h)) hown hK hP 0 rfl rfl 0 (by decide) (hts _ (List.mem_cons_of_mem _ wm_fl_X4_10)) (fun _ h9 => h9) rfl dX4_term_78 ?_
      refine vp_callSi (W.runV (C := RX3) (b := ad 0) (As := []) (rest := []) ⟨hx, hb, hml, hown, hts⟩ (ctX3_isFull l dC dI cI ad aK aA aB aC aP aV aN n (by omega)) (cwV 0 hts (wA_wsV wm_ml_X4_59 wm_im_X3_isFull wm_se_X3_isFull wm_in_X3 wm_cd_X3_isFull) rfl rfl rfl (by decide +kernel) ⟨Nat.le_of_ble_eq_true rfl, Nat.le_of_ble_eq_true rfl⟩) ⟨fun a U g mk q => by obtain ⟨q0, qP, qK⟩ := q; exact ⟨q0, qP, va_K.moved (u := U) (U := U.calling g mk a) (Vm.Alike.refl U.vm) qK⟩, va_recv (q := (RX3, TX3, 8)) (q0 := 2) hK hP rfl rfl, fun U hU hW => ⟨rfl, by rw [hU]; exact (hP.sub (ws' := wT cI ad aK aA aB aC aP aV aN n) [2, 3, 4, 5, 6, 7, 8, 9] rfl), va_K.moved hW.alike hK⟩⟩ rfl rfl hl.1 rfl (lv_room (Nat.le_of_ble_eq_true rfl)) dX4_term_81 ⟨Nat.zero_le _, Nat.zero_le _⟩) (fun r13 er13 => ?_)
      rcases er13 with ⟨-, hy⟩ | ⟨rfl, -⟩
      · exact absurd hy (by omega)
      refine lv_if_eq (tgt := 97) hx hb dX4_term_84 (by decide) (fun h14 => absurd h14 (by decide)) (fun _ => ?_)
      exact tx_throw (D := (dC, dI)) (cl := vwCl) (is := 65) (text := "there are twelve terms") wm_cl_X4_63 wm_in_IllegalStateException (by decide) Bundle.six_0 Bundle.six_1 Bundle.six_2 Bundle.six_5 tx_wG tx_cG tx_gG (tx_hG hE) hx hb hl9 hown hts (by decide) hE hP hS (hl.1.trans hml.symm) dX4_term_87 dX4_term_90 dX4_term_91 dX4_term_93 dX4_term_96 htab (Nat.le_of_ble_eq_true rfl) (Nat.le_of_ble_eq_true rfl) (Nat.le_of_ble_eq_true rfl) (Nat.le_of_ble_eq_true rfl) hlocks (Nat.le_refl _) (Nat.le_refl _)
  · skip
    have h4 : pv_s2 κ = 0 := (nI_eq (a := (pv_s2 κ)) (b := 0) (by omega) (by omega)).mp h4
    have eb1 : β = 0 := f2.1 h4
    refine lv_iconst (v := 0) hx hb dX4_term_32 (by decide) ?_
    refine lv_goto (tgt := 37) hx hb dX4_term_33 (by decide) ?_
    rw [show (0 : Int32) = nI β by rw [eb1]; rfl]
    refine lv_istore (lv' := [(5, .int (nI β)), (0, .ref (hf 0)), (1, .int (nI κ)), (2, .int (nI α)), (3, .int b0), (4, .int c0)]) hx hb dX4_term_37 hl (by decide) rfl (fun ls hl => ?_)
    refine lv_iload_n hx hb dX4_term_39 rfl (lv_at hl 2 rfl) ?_
    refine vp_callSi (W.runS (As := [.int (nI κ)]) (rest := []) ⟨hx, hb, hml, hown, hts⟩ (ctX2_ofThird l (nI κ)) (va_cwS 1 hts (wA_wsS wm_ml_X4_52 wm_st_X2_ofThird wm_in_X2 wm_cd_X2_ofThird) rfl rfl rfl (by decide +kernel) ⟨Nat.le_of_ble_eq_true rfl, Nat.le_of_ble_eq_true rfl⟩) ⟨fun a U g mk q => q, fun U hU hW => ⟨rfl, trivial⟩⟩ rfl rfl hl.1 rfl (lv_room (Nat.le_of_ble_eq_true rfl)) dX4_term_40 ⟨Nat.zero_le _, Nat.zero_le _⟩) (fun r15 er15 => ?_)
    rw [px_s3_n hκ] at er15
    subst er15
    refine lv_if_ne (tgt := 50) hx hb dX4_term_43 (by decide) (fun h16 => ?_) (fun h16 => ?_)
    · skip
      have h16 : ¬ pv_s3 κ = 0 := fun z => h16 ((nI_eq (a := (pv_s3 κ)) (b := 0) (by omega) (by omega)).mpr z)
      have ec1 := ec0 h16
      subst ec1
      refine lv_iload hx hb dX4_term_50 (lv_at hl 5 rfl) ?_
      refine lv_istore (lv' := [(6, .int (nI γ)), (5, .int (nI β)), (0, .ref (hf 0)), (1, .int (nI κ)), (2, .int (nI α)), (3, .int b0), (4, .int (nI γ))]) hx hb dX4_term_52 hl (by decide) rfl (fun ls hl => ?_)
      refine lv_aload_n hx hb dX4_term_54 rfl (lv_at hl 2 rfl) ?_
      refine va_get (D := (dC, dI)) (ci := 2) (v := .ref (ad 0)) (C := RX4) (T := TX4) (N := 5) hx hb hts (fun w h => List.mem_cons_of_mem _ (wf_X4 w h)) hown hK hP 0 rfl rfl 0 (by decide) (hts _ (List.mem_cons_of_mem _ wm_fl_X4_10)) (fun _ h9 => h9) rfl dX4_term_55 ?_
      refine lv_iload_n hx hb dX4_term_58 rfl (lv_at hl 3 rfl) ?_
      refine lv_iload_n hx hb dX4_term_59 rfl (lv_at hl 4 rfl) ?_
      refine lv_iload hx hb dX4_term_60 (lv_at hl 1 rfl) ?_
      refine lv_iload hx hb dX4_term_62 (lv_at hl 0 rfl) ?_
      refine vp_callSi (W.runV (C := RX3) (b := ad 0) (As := [.int (nI κ), .int (nI α), .int (nI β), .int (nI γ)]) (rest := []) ⟨hx, hb, hml, hown, hts⟩ (ctX3_find l dC dI cI ad aK aA aB aC aP aV aN n hn fk fa fb fc hk ha hbb hc hT κ α β γ hκ hα hβ hγ) (cwV 4 hts (wA_wsV wm_ml_X4_55 wm_im_X3_find wm_se_X3_find wm_in_X3 wm_cd_X3_find) rfl rfl rfl (by decide +kernel) ⟨Nat.le_of_ble_eq_true rfl, Nat.le_of_ble_eq_true rfl⟩) ⟨fun a U g mk q => by obtain ⟨q0, qP, qK⟩ := q; exact ⟨q0, qP, va_K.moved (u := U) (U := U.calling g mk a) (Vm.Alike.refl U.vm) qK⟩, va_recv (q := (RX3, TX3, 8)) (q0 := 2) hK hP rfl rfl, fun U hU hW => ⟨rfl, by rw [hU]; exact (hP.sub (ws' := wT cI ad aK aA aB aC aP aV aN n) [2, 3, 4, 5, 6, 7, 8, 9] rfl), va_K.moved hW.alike hK⟩⟩ rfl rfl hl.1 rfl (lv_room (Nat.le_of_ble_eq_true rfl)) dX4_term_64 ⟨Nat.zero_le _, Nat.zero_le _⟩) (fun r17 er17 => ?_)
      rw [hfd] at er17
      have er17 : r17 = -1 := er17
      subst er17
      refine lv_istore (lv' := [(7, .int (-1)), (6, .int (nI γ)), (5, .int (nI β)), (0, .ref (hf 0)), (1, .int (nI κ)), (2, .int (nI α)), (3, .int b0), (4, .int (nI γ))]) hx hb dX4_term_67 hl (by decide) rfl (fun ls hl => ?_)
      refine lv_iload hx hb dX4_term_69 (lv_at hl 0 rfl) ?_
      refine lv_if_lt (tgt := 77) hx hb dX4_term_71 (by decide) (fun _ => ?_) (fun h18 => absurd (by decide) h18)
      refine lv_aload_n hx hb dX4_term_77 rfl (lv_at hl 3 rfl) ?_
      refine va_get (D := (dC, dI)) (ci := 2) (v := .ref (ad 0)) (C := RX4) (T := TX4) (N := 5) hx hb hts (fun w h => List.mem_cons_of_mem _ (wf_X4 w h)) hown hK hP 0 rfl rfl 0 (by decide) (hts _ (List.mem_cons_of_mem _ wm_fl_X4_10)) (fun _ h9 => h9) rfl dX4_term_78 ?_
      refine vp_callSi (W.runV (C := RX3) (b := ad 0) (As := []) (rest := []) ⟨hx, hb, hml, hown, hts⟩ (ctX3_isFull l dC dI cI ad aK aA aB aC aP aV aN n (by omega)) (cwV 0 hts (wA_wsV wm_ml_X4_59 wm_im_X3_isFull wm_se_X3_isFull wm_in_X3 wm_cd_X3_isFull) rfl rfl rfl (by decide +kernel) ⟨Nat.le_of_ble_eq_true rfl, Nat.le_of_ble_eq_true rfl⟩) ⟨fun a U g mk q => by obtain ⟨q0, qP, qK⟩ := q; exact ⟨q0, qP, va_K.moved (u := U) (U := U.calling g mk a) (Vm.Alike.refl U.vm) qK⟩, va_recv (q := (RX3, TX3, 8)) (q0 := 2) hK hP rfl rfl, fun U hU hW => ⟨rfl, by rw [hU]; exact (hP.sub (ws' := wT cI ad aK aA aB aC aP aV aN n) [2, 3, 4, 5, 6, 7, 8, 9] rfl), va_K.moved hW.alike hK⟩⟩ rfl rfl hl.1 rfl (lv_room (Nat.le_of_ble_eq_true rfl)) dX4_term_81 ⟨Nat.zero_le _, Nat.zero_le _⟩) (fun r19 er19 => ?_)
      rcases er19 with ⟨-, hy⟩ | ⟨rfl, -⟩
      · exact absurd hy (by omega)
      refine lv_if_eq (tgt := 97) hx hb dX4_term_84 (by decide) (fun h20 => absurd h20 (by decide)) (fun _ => ?_)
      exact tx_throw (D := (dC, dI)) (cl := vwCl) (is := 65) (text := "there are twelve terms") wm_cl_X4_63 wm_in_IllegalStateException (by decide) Bundle.six_0 Bundle.six_1 Bundle.six_2 Bundle.six_5 tx_wG tx_cG tx_gG (tx_hG hE) hx hb hl9 hown hts (by decide) hE hP hS (hl.1.trans hml.symm) dX4_term_87 dX4_term_90 dX4_term_91 dX4_term_93 dX4_term_96 htab (Nat.le_of_ble_eq_true rfl) (Nat.le_of_ble_eq_true rfl) (Nat.le_of_ble_eq_true rfl) (Nat.le_of_ble_eq_true rfl) hlocks (Nat.le_refl _) (Nat.le_refl _)
    · skip
      have h16 : pv_s3 κ = 0 := (nI_eq (a := (pv_s3 κ)) (b := 0) (by omega) (by omega)).mp h16
      have ec1 : γ = 0 := f3.1 h16
      refine lv_iconst (v := 0) hx hb dX4_term_46 (by decide) ?_
      refine lv_goto (tgt := 52) hx hb dX4_term_47 (by decide) ?_
      rw [show (0 : Int32) = nI γ by rw [ec1]; rfl]
      refine lv_istore (lv' := [(6, .int (nI γ)), (5, .int (nI β)), (0, .ref (hf 0)), (1, .int (nI κ)), (2, .int (nI α)), (3, .int b0), (4, .int c0)]) hx hb dX4_term_52 hl (by decide) rfl (fun ls hl => ?_)
      refine lv_aload_n hx hb dX4_term_54 rfl (lv_at hl 2 rfl) ?_
      refine va_get (D := (dC, dI)) (ci := 2) (v := .ref (ad 0)) (C := RX4) (T := TX4) (N := 5) hx hb hts (fun w h => List.mem_cons_of_mem _ (wf_X4 w h)) hown hK hP 0 rfl rfl 0 (by decide) (hts _ (List.mem_cons_of_mem _ wm_fl_X4_10)) (fun _ h9 => h9) rfl dX4_term_55 ?_
      refine lv_iload_n hx hb dX4_term_58 rfl (lv_at hl 3 rfl) ?_
      refine lv_iload_n hx hb dX4_term_59 rfl (lv_at hl 4 rfl) ?_
      refine lv_iload hx hb dX4_term_60 (lv_at hl 1 rfl) ?_
      refine lv_iload hx hb dX4_term_62 (lv_at hl 0 rfl) ?_
      refine vp_callSi (W.runV (C := RX3) (b := ad 0) (As := [.int (nI κ), .int (nI α), .int (nI β), .int (nI γ)]) (rest := []) ⟨hx, hb, hml, hown, hts⟩ (ctX3_find l dC dI cI ad aK aA aB aC aP aV aN n hn fk fa fb fc hk ha hbb hc hT κ α β γ hκ hα hβ hγ) (cwV 4 hts (wA_wsV wm_ml_X4_55 wm_im_X3_find wm_se_X3_find wm_in_X3 wm_cd_X3_find) rfl rfl rfl (by decide +kernel) ⟨Nat.le_of_ble_eq_true rfl, Nat.le_of_ble_eq_true rfl⟩) ⟨fun a U g mk q => by obtain ⟨q0, qP, qK⟩ := q; exact ⟨q0, qP, va_K.moved (u := U) (U := U.calling g mk a) (Vm.Alike.refl U.vm) qK⟩, va_recv (q := (RX3, TX3, 8)) (q0 := 2) hK hP rfl rfl, fun U hU hW => ⟨rfl, by rw [hU]; exact (hP.sub (ws' := wT cI ad aK aA aB aC aP aV aN n) [2, 3, 4, 5, 6, 7, 8, 9] rfl), va_K.moved hW.alike hK⟩⟩ rfl rfl hl.1 rfl (lv_room (Nat.le_of_ble_eq_true rfl)) dX4_term_64 ⟨Nat.zero_le _, Nat.zero_le _⟩) (fun r21 er21 => ?_)
      rw [hfd] at er21
      have er21 : r21 = -1 := er21
      subst er21
      refine lv_istore (lv' := [(7, .int (-1)), (6, .int (nI γ)), (5, .int (nI β)), (0, .ref (hf 0)), (1, .int (nI κ)), (2, .int (nI α)), (3, .int b0), (4, .int c0)]) hx hb dX4_term_67 hl (by decide) rfl (fun ls hl => ?_)
      refine lv_iload hx hb dX4_term_69 (lv_at hl 0 rfl) ?_
      refine lv_if_lt (tgt := 77) hx hb dX4_term_71 (by decide) (fun _ => ?_) (fun h22 => absurd (by decide) h22)
      refine lv_aload_n hx hb dX4_term_77 rfl (lv_at hl 3 rfl) ?_
      refine va_get (D := (dC, dI)) (ci := 2) (v := .ref (ad 0)) (C := RX4) (T := TX4) (N := 5) hx hb hts (fun w h => List.mem_cons_of_mem _ (wf_X4 w h)) hown hK hP 0 rfl rfl 0 (by decide) (hts _ (List.mem_cons_of_mem _ wm_fl_X4_10)) (fun _ h9 => h9) rfl dX4_term_78 ?_
      refine vp_callSi (W.runV (C := RX3) (b := ad 0) (As := []) (rest := []) ⟨hx, hb, hml, hown, hts⟩ (ctX3_isFull l dC dI cI ad aK aA aB aC aP aV aN n (by omega)) (cwV 0 hts (wA_wsV wm_ml_X4_59 wm_im_X3_isFull wm_se_X3_isFull wm_in_X3 wm_cd_X3_isFull) rfl rfl rfl (by decide +kernel) ⟨Nat.le_of_ble_eq_true rfl, Nat.le_of_ble_eq_true rfl⟩) ⟨fun a U g mk q => by obtain ⟨q0, qP, qK⟩ := q; exact ⟨q0, qP, va_K.moved (u := U) (U := U.calling g mk a) (Vm.Alike.refl U.vm) qK⟩, va_recv (q := (RX3, TX3, 8)) (q0 := 2) hK hP rfl rfl, fun U hU hW => ⟨rfl, by rw [hU]; exact (hP.sub (ws' := wT cI ad aK aA aB aC aP aV aN n) [2, 3, 4, 5, 6, 7, 8, 9] rfl), va_K.moved hW.alike hK⟩⟩ rfl rfl hl.1 rfl (lv_room (Nat.le_of_ble_eq_true rfl)) dX4_term_81 ⟨Nat.zero_le _, Nat.zero_le _⟩) (fun r23 er23 => ?_)
      rcases er23 with ⟨-, hy⟩ | ⟨rfl, -⟩
      · exact absurd hy (by omega)
      refine lv_if_eq (tgt := 97) hx hb dX4_term_84 (by decide) (fun h24 => absurd h24 (by decide)) (fun _ => ?_)
      exact tx_throw (D := (dC, dI)) (cl := vwCl) (is := 65) (text := "there are twelve terms") wm_cl_X4_63 wm_in_IllegalStateException (by decide) Bundle.six_0 Bundle.six_1 Bundle.six_2 Bundle.six_5 tx_wG tx_cG tx_gG (tx_hG hE) hx hb hl9 hown hts (by decide) hE hP hS (hl.1.trans hml.symm) dX4_term_87 dX4_term_90 dX4_term_91 dX4_term_93 dX4_term_96 htab (Nat.le_of_ble_eq_true rfl) (Nat.le_of_ble_eq_true rfl) (Nat.le_of_ble_eq_true rfl) (Nat.le_of_ble_eq_true rfl) hlocks (Nat.le_refl _) (Nat.le_refl _)
set_option maxHeartbeats 4000000 in
set_option maxRecDepth 100000 in
theorem ctX4_term3 (sz : Nat) (hn : n ≤ 12) (fk fa fb fc : Nat → Nat) (hk : ∀ t, t < n → aK t = nI (fk t)) (ha : ∀ t, t < n → aA t = nI (fa t)) (hbb : ∀ t, t < n → aB t = nI (fb t)) (hc : ∀ t, t < n → aC t = nI (fc t)) (hT : pv_TI fk fa fb fc n) (kd a0 b0 c0 : Int32) (κ α β γ : Nat) (harg : pq_arg fk n kd a0 b0 c0 κ α β γ) (hfd : pq_fd fk fa fb fc κ α β γ n 0 = none) (hn12 : n < 12) : Met l yX4_term wsX4_term ({ frames := 6, cells := 0, slots := 0, locals := 100 }) (va_Pc [.ref (hf 0), .int kd, .int a0, .int b0, .int c0] (fun U => U.heap.size = sz ∧ va_P (dC, dI) vwCl (wF cI hf ad sd aF ms ck aK aA aB aC aP aV aN n aM aS mm lv) U.heap ∧ va_K (dC, dI) vwCl [(cI, .int)] U ∧ va_D (fun _ => True) (wF cI hf ad sd aF ms ck aK aA aB aC aP aV aN n aM aS mm lv))) (va_Qi (fun r _ => r = nI n) (fun (u : Unit) t9 => va_P (dC, dI) vwCl (wF cI hf ad sd aF ms ck (upd aK n (nI κ)) (upd aA n (nI α)) (upd aB n (nI β)) (upd aC n (nI γ)) (upd aP n (pp_new aP n κ α β γ)) (pc_nv (upd aP n (pp_new aP n κ α β γ)) aV n κ α 2) aN (n + 1) aM aS mm lv) t9.heap ∧ va_K (dC, dI) vwCl [(cI, .int)] t9 ∧ va_D (va_A (wF cI hf ad sd aF ms ck aK aA aB aC aP aV aN n aM aS mm lv) sz) (wF cI hf ad sd aF ms ck (upd aK n (nI κ)) (upd aA n (nI α)) (upd aB n (nI β)) (upd aC n (nI γ)) (upd aP n (pp_new aP n κ α β γ)) (pc_nv (upd aP n (pp_new aP n κ α β γ)) aV n κ α 2) aN (n + 1) aM aS mm lv)) (va_A (wF cI hf ad sd aF ms ck aK aA aB aC aP aV aN n aM aS mm lv) sz)) 0 0 (va_A (wF cI hf ad sd aF ms ck aK aA aB aC aP aV aN n aM aS mm lv) sz) := by
  refine Met.ofW (cc := cX4_term) (maxL := 8) (ret := (some .int)) (by decide) rfl ?_
  intro p e s m args below meth c s₁ B hml hv
  obtain ⟨rfl, hsz, hP, hK, hD0⟩ := hv
  subst hsz
  have hx := B.exec
  have hb := B.bytes
  have hr := B.returns
  have hts := atoms_spec (ws := wsX4_term) B.pre
  have hown : s.vm.findClass RX4 = some m.cls := findClass_of_methodNamed B.named
  have hlocks := B.notSynchronized
  have hl := lv_entry ([.ref (hf 0), .int kd, .int a0, .int b0, .int c0]) (n := 8) (Nat.le_of_ble_eq_true rfl)
  rw [lg_entry_eq]
  generalize (lg_sl ([.ref (hf 0), .int kd, .int a0, .int b0, .int c0]) ++ List.replicate (8 - (lg_sl ([.ref (hf 0), .int kd, .int a0, .int b0, .int c0])).length) Slot.unset).toArray = ls at hl ⊢
  have hl : lv_has ls 8 [(0, .ref (hf 0)), (1, .int kd), (2, .int a0), (3, .int b0), (4, .int c0)] := hl
  have hD := hD0.self (sz := s.heap.size)
  generalize hAe : va_A (wF cI hf ad sd aF ms ck aK aA aB aC aP aV aN n aM aS mm lv) s.heap.size = A9 at hD ⊢
  have hA : ∀ q : Nat, s.heap.size ≤ q → A9 q := fun q h => by rw [← hAe]; exact Or.inr h
  have hS : va_S A9 s.heap s.heap [] := va_S.rf
  have halw := pq_arg_alw harg
  obtain ⟨hκ, ekd, hα, ea0, f1, hβ, eb0, f2, hγ, ec0, f3⟩ := harg
  subst ekd
  subst ea0
  have s1 := pv_s1_le κ
  have s2 := pv_s2_le κ
  have s3 := pv_s3_le κ
  refine lv_aload_n hx hb dX4_term_0 rfl (lv_at hl 0 rfl) ?_
  refine va_get (D := (dC, dI)) (ci := 2) (v := .ref (ad 0)) (C := RX4) (T := TX4) (N := 5) hx hb hts (fun w h => List.mem_cons_of_mem _ (wf_X4 w h)) hown hK hP 0 rfl rfl 0 (by decide) (hts _ (List.mem_cons_of_mem _ wm_fl_X4_10)) (fun _ h9 => h9) rfl dX4_term_1 ?_
  refine lv_iload_n hx hb dX4_term_4 rfl (lv_at hl 1 rfl) ?_
  refine lv_iload_n hx hb dX4_term_5 rfl (lv_at hl 2 rfl) ?_
  refine lv_iload_n hx hb dX4_term_6 rfl (lv_at hl 3 rfl) ?_
  refine lv_iload hx hb dX4_term_7 (lv_at hl 4 rfl) ?_
  refine vp_callSi (W.runV (C := RX3) (b := ad 0) (As := [.int (nI κ), .int (nI α), .int b0, .int c0]) (rest := []) ⟨hx, hb, hml, hown, hts⟩ (ctX3_allows l dC dI cI ad aK aA aB aC aP aV aN n hn fk hk (fun t ht => pt_k20 hT ht) (nI κ) (nI α) b0 c0) (cwV 4 hts (wA_wsV wm_ml_X4_35 wm_im_X3_allows wm_se_X3_allows wm_in_X3 wm_cd_X3_allows) rfl rfl rfl (by decide +kernel) ⟨Nat.le_of_ble_eq_true rfl, Nat.le_of_ble_eq_true rfl⟩) ⟨fun a U g mk q => by obtain ⟨q0, qP, qK⟩ := q; exact ⟨q0, qP, va_K.moved (u := U) (U := U.calling g mk a) (Vm.Alike.refl U.vm) qK⟩, va_recv (q := (RX3, TX3, 8)) (q0 := 2) hK hP rfl rfl, fun U hU hW => ⟨rfl, by rw [hU]; exact (hP.sub (ws' := wT cI ad aK aA aB aC aP aV aN n) [2, 3, 4, 5, 6, 7, 8, 9] rfl), va_K.moved hW.alike hK⟩⟩ rfl rfl hl.1 rfl (lv_room (Nat.le_of_ble_eq_true rfl)) dX4_term_9 ⟨Nat.zero_le _, Nat.zero_le _⟩) (fun r1 er1 => ?_)
  rcases Or.symm er1 with ⟨-, hy⟩ | ⟨rfl, -⟩
  · exact absurd halw hy
  refine lv_if_ne (tgt := 25) hx hb dX4_term_12 (by decide) (fun _ => ?_) (fun h2 => absurd h2 (by decide))
  refine lv_iload_n hx hb dX4_term_25 rfl (lv_at hl 1 rfl) ?_
  refine vp_callSi (W.runS (As := [.int (nI κ)]) (rest := []) ⟨hx, hb, hml, hown, hts⟩ (ctX2_ofSecond l (nI κ)) (va_cwS 1 hts (wA_wsS wm_ml_X4_46 wm_st_X2_ofSecond wm_in_X2 wm_cd_X2_ofSecond) rfl rfl rfl (by decide +kernel) ⟨Nat.le_of_ble_eq_true rfl, Nat.le_of_ble_eq_true rfl⟩) ⟨fun a U g mk q => q, fun U hU hW => ⟨rfl, trivial⟩⟩ rfl rfl hl.1 rfl (lv_room (Nat.le_of_ble_eq_true rfl)) dX4_term_26 ⟨Nat.zero_le _, Nat.zero_le _⟩) (fun r3 er3 => ?_)
  rw [px_s2_n hκ] at er3
  subst er3
  refine lv_if_ne (tgt := 36) hx hb dX4_term_29 (by decide) (fun h4 => ?_) (fun h4 => ?_)
  · skip
    have h4 : ¬ pv_s2 κ = 0 := fun z => h4 ((nI_eq (a := (pv_s2 κ)) (b := 0) (by omega) (by omega)).mpr z)
    have eb1 := eb0 h4
    subst eb1
    refine lv_iload_n hx hb dX4_term_36 rfl (lv_at hl 3 rfl) ?_
    refine lv_istore (lv' := [(5, .int (nI β)), (0, .ref (hf 0)), (1, .int (nI κ)), (2, .int (nI α)), (3, .int (nI β)), (4, .int c0)]) hx hb dX4_term_37 hl (by decide) rfl (fun ls hl => ?_)
    refine lv_iload_n hx hb dX4_term_39 rfl (lv_at hl 2 rfl) ?_
    refine vp_callSi (W.runS (As := [.int (nI κ)]) (rest := []) ⟨hx, hb, hml, hown, hts⟩ (ctX2_ofThird l (nI κ)) (va_cwS 1 hts (wA_wsS wm_ml_X4_52 wm_st_X2_ofThird wm_in_X2 wm_cd_X2_ofThird) rfl rfl rfl (by decide +kernel) ⟨Nat.le_of_ble_eq_true rfl, Nat.le_of_ble_eq_true rfl⟩) ⟨fun a U g mk q => q, fun U hU hW => ⟨rfl, trivial⟩⟩ rfl rfl hl.1 rfl (lv_room (Nat.le_of_ble_eq_true rfl)) dX4_term_40 ⟨Nat.zero_le _, Nat.zero_le _⟩) (fun r5 er5 => ?_)
    rw [px_s3_n hκ] at er5
    subst er5
    refine lv_if_ne (tgt := 50) hx hb dX4_term_43 (by decide) (fun h6 => ?_) (fun h6 => ?_)
    · skip
      have h6 : ¬ pv_s3 κ = 0 := fun z => h6 ((nI_eq (a := (pv_s3 κ)) (b := 0) (by omega) (by omega)).mpr z)
      have ec1 := ec0 h6
      subst ec1
      refine lv_iload hx hb dX4_term_50 (lv_at hl 5 rfl) ?_
      refine lv_istore (lv' := [(6, .int (nI γ)), (5, .int (nI β)), (0, .ref (hf 0)), (1, .int (nI κ)), (2, .int (nI α)), (3, .int (nI β)), (4, .int (nI γ))]) hx hb dX4_term_52 hl (by decide) rfl (fun ls hl => ?_)
      refine lv_aload_n hx hb dX4_term_54 rfl (lv_at hl 2 rfl) ?_
      refine va_get (D := (dC, dI)) (ci := 2) (v := .ref (ad 0)) (C := RX4) (T := TX4) (N := 5) hx hb hts (fun w h => List.mem_cons_of_mem _ (wf_X4 w h)) hown hK hP 0 rfl rfl 0 (by decide) (hts _ (List.mem_cons_of_mem _ wm_fl_X4_10)) (fun _ h9 => h9) rfl dX4_term_55 ?_
      refine lv_iload_n hx hb dX4_term_58 rfl (lv_at hl 3 rfl) ?_
      refine lv_iload_n hx hb dX4_term_59 rfl (lv_at hl 4 rfl) ?_
      refine lv_iload hx hb dX4_term_60 (lv_at hl 1 rfl) ?_
      refine lv_iload hx hb dX4_term_62 (lv_at hl 0 rfl) ?_
      refine vp_callSi (W.runV (C := RX3) (b := ad 0) (As := [.int (nI κ), .int (nI α), .int (nI β), .int (nI γ)]) (rest := []) ⟨hx, hb, hml, hown, hts⟩ (ctX3_find l dC dI cI ad aK aA aB aC aP aV aN n hn fk fa fb fc hk ha hbb hc hT κ α β γ hκ hα hβ hγ) (cwV 4 hts (wA_wsV wm_ml_X4_55 wm_im_X3_find wm_se_X3_find wm_in_X3 wm_cd_X3_find) rfl rfl rfl (by decide +kernel) ⟨Nat.le_of_ble_eq_true rfl, Nat.le_of_ble_eq_true rfl⟩) ⟨fun a U g mk q => by obtain ⟨q0, qP, qK⟩ := q; exact ⟨q0, qP, va_K.moved (u := U) (U := U.calling g mk a) (Vm.Alike.refl U.vm) qK⟩, va_recv (q := (RX3, TX3, 8)) (q0 := 2) hK hP rfl rfl, fun U hU hW => ⟨rfl, by rw [hU]; exact (hP.sub (ws' := wT cI ad aK aA aB aC aP aV aN n) [2, 3, 4, 5, 6, 7, 8, 9] rfl), va_K.moved hW.alike hK⟩⟩ rfl rfl hl.1 rfl (lv_room (Nat.le_of_ble_eq_true rfl)) dX4_term_64 ⟨Nat.zero_le _, Nat.zero_le _⟩) (fun r7 er7 => ?_)
      rw [hfd] at er7
      have er7 : r7 = -1 := er7
      subst er7
      refine lv_istore (lv' := [(7, .int (-1)), (6, .int (nI γ)), (5, .int (nI β)), (0, .ref (hf 0)), (1, .int (nI κ)), (2, .int (nI α)), (3, .int (nI β)), (4, .int (nI γ))]) hx hb dX4_term_67 hl (by decide) rfl (fun ls hl => ?_)
      refine lv_iload hx hb dX4_term_69 (lv_at hl 0 rfl) ?_
      refine lv_if_lt (tgt := 77) hx hb dX4_term_71 (by decide) (fun _ => ?_) (fun h8 => absurd (by decide) h8)
      refine lv_aload_n hx hb dX4_term_77 rfl (lv_at hl 3 rfl) ?_
      refine va_get (D := (dC, dI)) (ci := 2) (v := .ref (ad 0)) (C := RX4) (T := TX4) (N := 5) hx hb hts (fun w h => List.mem_cons_of_mem _ (wf_X4 w h)) hown hK hP 0 rfl rfl 0 (by decide) (hts _ (List.mem_cons_of_mem _ wm_fl_X4_10)) (fun _ h9 => h9) rfl dX4_term_78 ?_
      refine vp_callSi (W.runV (C := RX3) (b := ad 0) (As := []) (rest := []) ⟨hx, hb, hml, hown, hts⟩ (ctX3_isFull l dC dI cI ad aK aA aB aC aP aV aN n (by omega)) (cwV 0 hts (wA_wsV wm_ml_X4_59 wm_im_X3_isFull wm_se_X3_isFull wm_in_X3 wm_cd_X3_isFull) rfl rfl rfl (by decide +kernel) ⟨Nat.le_of_ble_eq_true rfl, Nat.le_of_ble_eq_true rfl⟩) ⟨fun a U g mk q => by obtain ⟨q0, qP, qK⟩ := q; exact ⟨q0, qP, va_K.moved (u := U) (U := U.calling g mk a) (Vm.Alike.refl U.vm) qK⟩, va_recv (q := (RX3, TX3, 8)) (q0 := 2) hK hP rfl rfl, fun U hU hW => ⟨rfl, by rw [hU]; exact (hP.sub (ws' := wT cI ad aK aA aB aC aP aV aN n) [2, 3, 4, 5, 6, 7, 8, 9] rfl), va_K.moved hW.alike hK⟩⟩ rfl rfl hl.1 rfl (lv_room (Nat.le_of_ble_eq_true rfl)) dX4_term_81 ⟨Nat.zero_le _, Nat.zero_le _⟩) (fun r9 er9 => ?_)
      rcases Or.symm er9 with ⟨-, hy⟩ | ⟨rfl, -⟩
      · exact absurd hy (by omega)
      refine lv_if_eq (tgt := 97) hx hb dX4_term_84 (by decide) (fun _ => ?_) (fun h10 => absurd (by decide) h10)
      refine lv_aload_n hx hb dX4_term_97 rfl (lv_at hl 3 rfl) ?_
      refine va_get (D := (dC, dI)) (ci := 2) (v := .ref (ad 0)) (C := RX4) (T := TX4) (N := 5) hx hb hts (fun w h => List.mem_cons_of_mem _ (wf_X4 w h)) hown hK hP 0 rfl rfl 0 (by decide) (hts _ (List.mem_cons_of_mem _ wm_fl_X4_10)) (fun _ h9 => h9) rfl dX4_term_98 ?_
      refine lv_iload_n hx hb dX4_term_101 rfl (lv_at hl 4 rfl) ?_
      refine lv_iload_n hx hb dX4_term_102 rfl (lv_at hl 5 rfl) ?_
      refine lv_iload hx hb dX4_term_103 (lv_at hl 2 rfl) ?_
      refine lv_iload hx hb dX4_term_105 (lv_at hl 1 rfl) ?_
      have hPc := hP.sub (ws' := (wT cI ad aK aA aB aC aP aV aN n)) [2, 3, 4, 5, 6, 7, 8, 9] rfl
      have hDc := hD.sub (ws' := (wT cI ad aK aA aB aC aP aV aN n)) [2, 3, 4, 5, 6, 7, 8, 9] (by decide) rfl
      have hFc := va_free (wc := (wT cI ad aK aA aB aC aP aV aN n)) hD hS hA [2, 3, 4, 5, 6, 7, 8, 9] rfl
      refine va_calli (va_runV (C := RX3) (b := ad 0) (As := [.int (nI κ), .int (nI α), .int (nI β), .int (nI γ)]) (rest := []) ⟨hx, hb, hml, hown, hts⟩ (ctX3_append l dC dI cI ad aK aA aB aC aP aV aN n s.heap.size κ α β γ hn12 hκ hα (pq_lt hn f1 (by omega)) (pq_lt hn f2 (by omega)) (pq_lt hn f3 (by omega))) (cwV 4 hts (wA_wsV wm_ml_X4_68 wm_im_X3_append wm_se_X3_append wm_in_X3 wm_cd_X3_append) rfl rfl rfl (by decide +kernel) ⟨Nat.le_of_ble_eq_true rfl, Nat.le_of_ble_eq_true rfl⟩) ⟨fun a U g mk q => by obtain ⟨q0, q1, qP, qK, qD⟩ := q; exact ⟨q0, q1, qP, va_K.moved (u := U) (U := U.calling g mk a) (Vm.Alike.refl U.vm) qK, qD⟩, va_recv (q := (RX3, TX3, 8)) (q0 := 2) hK hP rfl rfl, fun U hU hW => ⟨rfl, by rw [hU], by rw [hU]; exact hPc, va_K.moved hW.alike hK, hDc.weaken (fun _ _ _ _ => trivial)⟩⟩ rfl rfl hl.1 rfl (lv_room (Nat.le_of_ble_eq_true rfl)) dX4_term_107 ⟨Nat.zero_le _, Nat.zero_le _⟩) hS (fun q _ h => hFc q h) hFc (fun r11 u t8 H1 locs ht8 hvm8 er11 hB hz1 hk1 hS => ?_)
      obtain ⟨hP1, hK1, hD1⟩ := hB
      rw [ht8] at hP1
      obtain ⟨hP, hD⟩ := va_join (wr := [(hf 0, .inr (2, [.ref (ad 0), .ref (sd 0), .ref (hf 1), .int ms, .int ck])), (hf 1, .inl (cI, 2, .inl aF)), (sd 0, .inr (0, [.ref (sd 1), .ref (sd 2), .int (nI mm), .int (nI lv)])), (sd 1, .inl (cI, 20, .inl aM)), (sd 2, .inl (cI, 6, .inl aS))]) (w1 := [(ad 0, .inr (1, [.ref (ad 1), .ref (ad 2), .ref (ad 3), .ref (ad 4), .ref (ad 5), .ref (ad 6), .ref (ad 7), .int (nI (n + 1))])), (ad 1, .inl (cI, 12, .inl (upd aK n (nI κ)))), (ad 2, .inl (cI, 12, .inl (upd aA n (nI α)))), (ad 3, .inl (cI, 12, .inl (upd aB n (nI β)))), (ad 4, .inl (cI, 12, .inl (upd aC n (nI γ)))), (ad 5, .inl (cI, 12, .inl (upd aP n (pp_new aP n κ α β γ)))), (ad 6, .inl (cI, 2, .inl (pc_nv (upd aP n (pp_new aP n κ α β γ)) aV n κ α 2))), (ad 7, .inl (cI, 12, .inl aN))]) hP hD [2, 3, 4, 5, 6, 7, 8, 9] [0, 1, 10, 11, 12] rfl rfl (by decide) (by decide) hk1 hFc hP1 hD1
      clear hPc hDc hFc hP1 hK1 hD1 hk1 hz1
      generalize H1 = H at hP hS ⊢
      have hP := hP.sub (ws' := [(hf 0, .inr (2, [.ref (ad 0), .ref (sd 0), .ref (hf 1), .int ms, .int ck])), (hf 1, .inl (cI, 2, .inl aF)), (ad 0, .inr (1, [.ref (ad 1), .ref (ad 2), .ref (ad 3), .ref (ad 4), .ref (ad 5), .ref (ad 6), .ref (ad 7), .int (nI (n + 1))])), (ad 1, .inl (cI, 12, .inl (upd aK n (nI κ)))), (ad 2, .inl (cI, 12, .inl (upd aA n (nI α)))), (ad 3, .inl (cI, 12, .inl (upd aB n (nI β)))), (ad 4, .inl (cI, 12, .inl (upd aC n (nI γ)))), (ad 5, .inl (cI, 12, .inl (upd aP n (pp_new aP n κ α β γ)))), (ad 6, .inl (cI, 2, .inl (pc_nv (upd aP n (pp_new aP n κ α β γ)) aV n κ α 2))), (ad 7, .inl (cI, 12, .inl aN)), (sd 0, .inr (0, [.ref (sd 1), .ref (sd 2), .int (nI mm), .int (nI lv)])), (sd 1, .inl (cI, 20, .inl aM)), (sd 2, .inl (cI, 6, .inl aS))]) [0, 1, 5, 6, 7, 8, 9, 10, 11, 12, 2, 3, 4] rfl
      have hD := hD.sub (ws' := [(hf 0, .inr (2, [.ref (ad 0), .ref (sd 0), .ref (hf 1), .int ms, .int ck])), (hf 1, .inl (cI, 2, .inl aF)), (ad 0, .inr (1, [.ref (ad 1), .ref (ad 2), .ref (ad 3), .ref (ad 4), .ref (ad 5), .ref (ad 6), .ref (ad 7), .int (nI (n + 1))])), (ad 1, .inl (cI, 12, .inl (upd aK n (nI κ)))), (ad 2, .inl (cI, 12, .inl (upd aA n (nI α)))), (ad 3, .inl (cI, 12, .inl (upd aB n (nI β)))), (ad 4, .inl (cI, 12, .inl (upd aC n (nI γ)))), (ad 5, .inl (cI, 12, .inl (upd aP n (pp_new aP n κ α β γ)))), (ad 6, .inl (cI, 2, .inl (pc_nv (upd aP n (pp_new aP n κ α β γ)) aV n κ α 2))), (ad 7, .inl (cI, 12, .inl aN)), (sd 0, .inr (0, [.ref (sd 1), .ref (sd 2), .int (nI mm), .int (nI lv)])), (sd 1, .inl (cI, 20, .inl aM)), (sd 2, .inl (cI, 6, .inl aS))]) [0, 1, 5, 6, 7, 8, 9, 10, 11, 12, 2, 3, 4] (by decide) rfl
      subst er11
      exact W.iret (v := nI n) hx hb hr (fun t9 ht9 hW9 => ⟨⟨nI n, (), rfl, rfl, by rw [ht9]; exact hP, va_K.moved hW9.alike hK, hD⟩, hS.F ht9⟩) hS.2.2 dX4_term_110
    · skip
      have h6 : pv_s3 κ = 0 := (nI_eq (a := (pv_s3 κ)) (b := 0) (by omega) (by omega)).mp h6
      have ec1 : γ = 0 := f3.1 h6
      refine lv_iconst (v := 0) hx hb dX4_term_46 (by decide) ?_
      refine lv_goto (tgt := 52) hx hb dX4_term_47 (by decide) ?_
      rw [show (0 : Int32) = nI γ by rw [ec1]; rfl]
      refine lv_istore (lv' := [(6, .int (nI γ)), (5, .int (nI β)), (0, .ref (hf 0)), (1, .int (nI κ)), (2, .int (nI α)), (3, .int (nI β)), (4, .int c0)]) hx hb dX4_term_52 hl (by decide) rfl (fun ls hl => ?_)
      refine lv_aload_n hx hb dX4_term_54 rfl (lv_at hl 2 rfl) ?_
      refine va_get (D := (dC, dI)) (ci := 2) (v := .ref (ad 0)) (C := RX4) (T := TX4) (N := 5) hx hb hts (fun w h => List.mem_cons_of_mem _ (wf_X4 w h)) hown hK hP 0 rfl rfl 0 (by decide) (hts _ (List.mem_cons_of_mem _ wm_fl_X4_10)) (fun _ h9 => h9) rfl dX4_term_55 ?_
      refine lv_iload_n hx hb dX4_term_58 rfl (lv_at hl 3 rfl) ?_
      refine lv_iload_n hx hb dX4_term_59 rfl (lv_at hl 4 rfl) ?_
      refine lv_iload hx hb dX4_term_60 (lv_at hl 1 rfl) ?_
      refine lv_iload hx hb dX4_term_62 (lv_at hl 0 rfl) ?_
      refine vp_callSi (W.runV (C := RX3) (b := ad 0) (As := [.int (nI κ), .int (nI α), .int (nI β), .int (nI γ)]) (rest := []) ⟨hx, hb, hml, hown, hts⟩ (ctX3_find l dC dI cI ad aK aA aB aC aP aV aN n hn fk fa fb fc hk ha hbb hc hT κ α β γ hκ hα hβ hγ) (cwV 4 hts (wA_wsV wm_ml_X4_55 wm_im_X3_find wm_se_X3_find wm_in_X3 wm_cd_X3_find) rfl rfl rfl (by decide +kernel) ⟨Nat.le_of_ble_eq_true rfl, Nat.le_of_ble_eq_true rfl⟩) ⟨fun a U g mk q => by obtain ⟨q0, qP, qK⟩ := q; exact ⟨q0, qP, va_K.moved (u := U) (U := U.calling g mk a) (Vm.Alike.refl U.vm) qK⟩, va_recv (q := (RX3, TX3, 8)) (q0 := 2) hK hP rfl rfl, fun U hU hW => ⟨rfl, by rw [hU]; exact (hP.sub (ws' := wT cI ad aK aA aB aC aP aV aN n) [2, 3, 4, 5, 6, 7, 8, 9] rfl), va_K.moved hW.alike hK⟩⟩ rfl rfl hl.1 rfl (lv_room (Nat.le_of_ble_eq_true rfl)) dX4_term_64 ⟨Nat.zero_le _, Nat.zero_le _⟩) (fun r12 er12 => ?_)
      rw [hfd] at er12
      have er12 : r12 = -1 := er12
      subst er12
      refine lv_istore (lv' := [(7, .int (-1)), (6, .int (nI γ)), (5, .int (nI β)), (0, .ref (hf 0)), (1, .int (nI κ)), (2, .int (nI α)), (3, .int (nI β)), (4, .int c0)]) hx hb dX4_term_67 hl (by decide) rfl (fun ls hl => ?_)
      refine lv_iload hx hb dX4_term_69 (lv_at hl 0 rfl) ?_
      refine lv_if_lt (tgt := 77) hx hb dX4_term_71 (by decide) (fun _ => ?_) (fun h13 => absurd (by decide) h13)
      refine lv_aload_n hx hb dX4_term_77 rfl (lv_at hl 3 rfl) ?_
      refine va_get (D := (dC, dI)) (ci := 2) (v := .ref (ad 0)) (C := RX4) (T := TX4) (N := 5) hx hb hts (fun w h => List.mem_cons_of_mem _ (wf_X4 w h)) hown hK hP 0 rfl rfl 0 (by decide) (hts _ (List.mem_cons_of_mem _ wm_fl_X4_10)) (fun _ h9 => h9) rfl dX4_term_78 ?_
      refine vp_callSi (W.runV (C := RX3) (b := ad 0) (As := []) (rest := []) ⟨hx, hb, hml, hown, hts⟩ (ctX3_isFull l dC dI cI ad aK aA aB aC aP aV aN n (by omega)) (cwV 0 hts (wA_wsV wm_ml_X4_59 wm_im_X3_isFull wm_se_X3_isFull wm_in_X3 wm_cd_X3_isFull) rfl rfl rfl (by decide +kernel) ⟨Nat.le_of_ble_eq_true rfl, Nat.le_of_ble_eq_true rfl⟩) ⟨fun a U g mk q => by obtain ⟨q0, qP, qK⟩ := q; exact ⟨q0, qP, va_K.moved (u := U) (U := U.calling g mk a) (Vm.Alike.refl U.vm) qK⟩, va_recv (q := (RX3, TX3, 8)) (q0 := 2) hK hP rfl rfl, fun U hU hW => ⟨rfl, by rw [hU]; exact (hP.sub (ws' := wT cI ad aK aA aB aC aP aV aN n) [2, 3, 4, 5, 6, 7, 8, 9] rfl), va_K.moved hW.alike hK⟩⟩ rfl rfl hl.1 rfl (lv_room (Nat.le_of_ble_eq_true rfl)) dX4_term_81 ⟨Nat.zero_le _, Nat.zero_le _⟩) (fun r14 er14 => ?_)
      rcases Or.symm er14 with ⟨-, hy⟩ | ⟨rfl, -⟩
      · exact absurd hy (by omega)
      refine lv_if_eq (tgt := 97) hx hb dX4_term_84 (by decide) (fun _ => ?_) (fun h15 => absurd (by decide) h15)
      refine lv_aload_n hx hb dX4_term_97 rfl (lv_at hl 3 rfl) ?_
      refine va_get (D := (dC, dI)) (ci := 2) (v := .ref (ad 0)) (C := RX4) (T := TX4) (N := 5) hx hb hts (fun w h => List.mem_cons_of_mem _ (wf_X4 w h)) hown hK hP 0 rfl rfl 0 (by decide) (hts _ (List.mem_cons_of_mem _ wm_fl_X4_10)) (fun _ h9 => h9) rfl dX4_term_98 ?_
      refine lv_iload_n hx hb dX4_term_101 rfl (lv_at hl 4 rfl) ?_
      refine lv_iload_n hx hb dX4_term_102 rfl (lv_at hl 5 rfl) ?_
      refine lv_iload hx hb dX4_term_103 (lv_at hl 2 rfl) ?_
      refine lv_iload hx hb dX4_term_105 (lv_at hl 1 rfl) ?_
      have hPc := hP.sub (ws' := (wT cI ad aK aA aB aC aP aV aN n)) [2, 3, 4, 5, 6, 7, 8, 9] rfl
      have hDc := hD.sub (ws' := (wT cI ad aK aA aB aC aP aV aN n)) [2, 3, 4, 5, 6, 7, 8, 9] (by decide) rfl
      have hFc := va_free (wc := (wT cI ad aK aA aB aC aP aV aN n)) hD hS hA [2, 3, 4, 5, 6, 7, 8, 9] rfl
      refine va_calli (va_runV (C := RX3) (b := ad 0) (As := [.int (nI κ), .int (nI α), .int (nI β), .int (nI γ)]) (rest := []) ⟨hx, hb, hml, hown, hts⟩ (ctX3_append l dC dI cI ad aK aA aB aC aP aV aN n s.heap.size κ α β γ hn12 hκ hα (pq_lt hn f1 (by omega)) (pq_lt hn f2 (by omega)) (pq_lt hn f3 (by omega))) (cwV 4 hts (wA_wsV wm_ml_X4_68 wm_im_X3_append wm_se_X3_append wm_in_X3 wm_cd_X3_append) rfl rfl rfl (by decide +kernel) ⟨Nat.le_of_ble_eq_true rfl, Nat.le_of_ble_eq_true rfl⟩) ⟨fun a U g mk q => by obtain ⟨q0, q1, qP, qK, qD⟩ := q; exact ⟨q0, q1, qP, va_K.moved (u := U) (U := U.calling g mk a) (Vm.Alike.refl U.vm) qK, qD⟩, va_recv (q := (RX3, TX3, 8)) (q0 := 2) hK hP rfl rfl, fun U hU hW => ⟨rfl, by rw [hU], by rw [hU]; exact hPc, va_K.moved hW.alike hK, hDc.weaken (fun _ _ _ _ => trivial)⟩⟩ rfl rfl hl.1 rfl (lv_room (Nat.le_of_ble_eq_true rfl)) dX4_term_107 ⟨Nat.zero_le _, Nat.zero_le _⟩) hS (fun q _ h => hFc q h) hFc (fun r16 u t8 H1 locs ht8 hvm8 er16 hB hz1 hk1 hS => ?_)
      obtain ⟨hP1, hK1, hD1⟩ := hB
      rw [ht8] at hP1
      obtain ⟨hP, hD⟩ := va_join (wr := [(hf 0, .inr (2, [.ref (ad 0), .ref (sd 0), .ref (hf 1), .int ms, .int ck])), (hf 1, .inl (cI, 2, .inl aF)), (sd 0, .inr (0, [.ref (sd 1), .ref (sd 2), .int (nI mm), .int (nI lv)])), (sd 1, .inl (cI, 20, .inl aM)), (sd 2, .inl (cI, 6, .inl aS))]) (w1 := [(ad 0, .inr (1, [.ref (ad 1), .ref (ad 2), .ref (ad 3), .ref (ad 4), .ref (ad 5), .ref (ad 6), .ref (ad 7), .int (nI (n + 1))])), (ad 1, .inl (cI, 12, .inl (upd aK n (nI κ)))), (ad 2, .inl (cI, 12, .inl (upd aA n (nI α)))), (ad 3, .inl (cI, 12, .inl (upd aB n (nI β)))), (ad 4, .inl (cI, 12, .inl (upd aC n (nI γ)))), (ad 5, .inl (cI, 12, .inl (upd aP n (pp_new aP n κ α β γ)))), (ad 6, .inl (cI, 2, .inl (pc_nv (upd aP n (pp_new aP n κ α β γ)) aV n κ α 2))), (ad 7, .inl (cI, 12, .inl aN))]) hP hD [2, 3, 4, 5, 6, 7, 8, 9] [0, 1, 10, 11, 12] rfl rfl (by decide) (by decide) hk1 hFc hP1 hD1
      clear hPc hDc hFc hP1 hK1 hD1 hk1 hz1
      generalize H1 = H at hP hS ⊢
      have hP := hP.sub (ws' := [(hf 0, .inr (2, [.ref (ad 0), .ref (sd 0), .ref (hf 1), .int ms, .int ck])), (hf 1, .inl (cI, 2, .inl aF)), (ad 0, .inr (1, [.ref (ad 1), .ref (ad 2), .ref (ad 3), .ref (ad 4), .ref (ad 5), .ref (ad 6), .ref (ad 7), .int (nI (n + 1))])), (ad 1, .inl (cI, 12, .inl (upd aK n (nI κ)))), (ad 2, .inl (cI, 12, .inl (upd aA n (nI α)))), (ad 3, .inl (cI, 12, .inl (upd aB n (nI β)))), (ad 4, .inl (cI, 12, .inl (upd aC n (nI γ)))), (ad 5, .inl (cI, 12, .inl (upd aP n (pp_new aP n κ α β γ)))), (ad 6, .inl (cI, 2, .inl (pc_nv (upd aP n (pp_new aP n κ α β γ)) aV n κ α 2))), (ad 7, .inl (cI, 12, .inl aN)), (sd 0, .inr (0, [.ref (sd 1), .ref (sd 2), .int (nI mm), .int (nI lv)])), (sd 1, .inl (cI, 20, .inl aM)), (sd 2, .inl (cI, 6, .inl aS))]) [0, 1, 5, 6, 7, 8, 9, 10, 11, 12, 2, 3, 4] rfl
      have hD := hD.sub (ws' := [(hf 0, .inr (2, [.ref (ad 0), .ref (sd 0), .ref (hf 1), .int ms, .int ck])), (hf 1, .inl (cI, 2, .inl aF)), (ad 0, .inr (1, [.ref (ad 1), .ref (ad 2), .ref (ad 3), .ref (ad 4), .ref (ad 5), .ref (ad 6), .ref (ad 7), .int (nI (n + 1))])), (ad 1, .inl (cI, 12, .inl (upd aK n (nI κ)))), (ad 2, .inl (cI, 12, .inl (upd aA n (nI α)))), (ad 3, .inl (cI, 12, .inl (upd aB n (nI β)))), (ad 4, .inl (cI, 12, .inl (upd aC n (nI γ)))), (ad 5, .inl (cI, 12, .inl (upd aP n (pp_new aP n κ α β γ)))), (ad 6, .inl (cI, 2, .inl (pc_nv (upd aP n (pp_new aP n κ α β γ)) aV n κ α 2))), (ad 7, .inl (cI, 12, .inl aN)), (sd 0, .inr (0, [.ref (sd 1), .ref (sd 2), .int (nI mm), .int (nI lv)])), (sd 1, .inl (cI, 20, .inl aM)), (sd 2, .inl (cI, 6, .inl aS))]) [0, 1, 5, 6, 7, 8, 9, 10, 11, 12, 2, 3, 4] (by decide) rfl
      subst er16
      exact W.iret (v := nI n) hx hb hr (fun t9 ht9 hW9 => ⟨⟨nI n, (), rfl, rfl, by rw [ht9]; exact hP, va_K.moved hW9.alike hK, hD⟩, hS.F ht9⟩) hS.2.2 dX4_term_110
  · skip
    have h4 : pv_s2 κ = 0 := (nI_eq (a := (pv_s2 κ)) (b := 0) (by omega) (by omega)).mp h4
    have eb1 : β = 0 := f2.1 h4
    refine lv_iconst (v := 0) hx hb dX4_term_32 (by decide) ?_
    refine lv_goto (tgt := 37) hx hb dX4_term_33 (by decide) ?_
    rw [show (0 : Int32) = nI β by rw [eb1]; rfl]
    refine lv_istore (lv' := [(5, .int (nI β)), (0, .ref (hf 0)), (1, .int (nI κ)), (2, .int (nI α)), (3, .int b0), (4, .int c0)]) hx hb dX4_term_37 hl (by decide) rfl (fun ls hl => ?_)
    refine lv_iload_n hx hb dX4_term_39 rfl (lv_at hl 2 rfl) ?_
    refine vp_callSi (W.runS (As := [.int (nI κ)]) (rest := []) ⟨hx, hb, hml, hown, hts⟩ (ctX2_ofThird l (nI κ)) (va_cwS 1 hts (wA_wsS wm_ml_X4_52 wm_st_X2_ofThird wm_in_X2 wm_cd_X2_ofThird) rfl rfl rfl (by decide +kernel) ⟨Nat.le_of_ble_eq_true rfl, Nat.le_of_ble_eq_true rfl⟩) ⟨fun a U g mk q => q, fun U hU hW => ⟨rfl, trivial⟩⟩ rfl rfl hl.1 rfl (lv_room (Nat.le_of_ble_eq_true rfl)) dX4_term_40 ⟨Nat.zero_le _, Nat.zero_le _⟩) (fun r17 er17 => ?_)
    rw [px_s3_n hκ] at er17
    subst er17
    refine lv_if_ne (tgt := 50) hx hb dX4_term_43 (by decide) (fun h18 => ?_) (fun h18 => ?_)
    · skip
      have h18 : ¬ pv_s3 κ = 0 := fun z => h18 ((nI_eq (a := (pv_s3 κ)) (b := 0) (by omega) (by omega)).mpr z)
      have ec1 := ec0 h18
      subst ec1
      refine lv_iload hx hb dX4_term_50 (lv_at hl 5 rfl) ?_
      refine lv_istore (lv' := [(6, .int (nI γ)), (5, .int (nI β)), (0, .ref (hf 0)), (1, .int (nI κ)), (2, .int (nI α)), (3, .int b0), (4, .int (nI γ))]) hx hb dX4_term_52 hl (by decide) rfl (fun ls hl => ?_)
      refine lv_aload_n hx hb dX4_term_54 rfl (lv_at hl 2 rfl) ?_
      refine va_get (D := (dC, dI)) (ci := 2) (v := .ref (ad 0)) (C := RX4) (T := TX4) (N := 5) hx hb hts (fun w h => List.mem_cons_of_mem _ (wf_X4 w h)) hown hK hP 0 rfl rfl 0 (by decide) (hts _ (List.mem_cons_of_mem _ wm_fl_X4_10)) (fun _ h9 => h9) rfl dX4_term_55 ?_
      refine lv_iload_n hx hb dX4_term_58 rfl (lv_at hl 3 rfl) ?_
      refine lv_iload_n hx hb dX4_term_59 rfl (lv_at hl 4 rfl) ?_
      refine lv_iload hx hb dX4_term_60 (lv_at hl 1 rfl) ?_
      refine lv_iload hx hb dX4_term_62 (lv_at hl 0 rfl) ?_
      refine vp_callSi (W.runV (C := RX3) (b := ad 0) (As := [.int (nI κ), .int (nI α), .int (nI β), .int (nI γ)]) (rest := []) ⟨hx, hb, hml, hown, hts⟩ (ctX3_find l dC dI cI ad aK aA aB aC aP aV aN n hn fk fa fb fc hk ha hbb hc hT κ α β γ hκ hα hβ hγ) (cwV 4 hts (wA_wsV wm_ml_X4_55 wm_im_X3_find wm_se_X3_find wm_in_X3 wm_cd_X3_find) rfl rfl rfl (by decide +kernel) ⟨Nat.le_of_ble_eq_true rfl, Nat.le_of_ble_eq_true rfl⟩) ⟨fun a U g mk q => by obtain ⟨q0, qP, qK⟩ := q; exact ⟨q0, qP, va_K.moved (u := U) (U := U.calling g mk a) (Vm.Alike.refl U.vm) qK⟩, va_recv (q := (RX3, TX3, 8)) (q0 := 2) hK hP rfl rfl, fun U hU hW => ⟨rfl, by rw [hU]; exact (hP.sub (ws' := wT cI ad aK aA aB aC aP aV aN n) [2, 3, 4, 5, 6, 7, 8, 9] rfl), va_K.moved hW.alike hK⟩⟩ rfl rfl hl.1 rfl (lv_room (Nat.le_of_ble_eq_true rfl)) dX4_term_64 ⟨Nat.zero_le _, Nat.zero_le _⟩) (fun r19 er19 => ?_)
      rw [hfd] at er19
      have er19 : r19 = -1 := er19
      subst er19
      refine lv_istore (lv' := [(7, .int (-1)), (6, .int (nI γ)), (5, .int (nI β)), (0, .ref (hf 0)), (1, .int (nI κ)), (2, .int (nI α)), (3, .int b0), (4, .int (nI γ))]) hx hb dX4_term_67 hl (by decide) rfl (fun ls hl => ?_)
      refine lv_iload hx hb dX4_term_69 (lv_at hl 0 rfl) ?_
      refine lv_if_lt (tgt := 77) hx hb dX4_term_71 (by decide) (fun _ => ?_) (fun h20 => absurd (by decide) h20)
      refine lv_aload_n hx hb dX4_term_77 rfl (lv_at hl 3 rfl) ?_
      refine va_get (D := (dC, dI)) (ci := 2) (v := .ref (ad 0)) (C := RX4) (T := TX4) (N := 5) hx hb hts (fun w h => List.mem_cons_of_mem _ (wf_X4 w h)) hown hK hP 0 rfl rfl 0 (by decide) (hts _ (List.mem_cons_of_mem _ wm_fl_X4_10)) (fun _ h9 => h9) rfl dX4_term_78 ?_
      refine vp_callSi (W.runV (C := RX3) (b := ad 0) (As := []) (rest := []) ⟨hx, hb, hml, hown, hts⟩ (ctX3_isFull l dC dI cI ad aK aA aB aC aP aV aN n (by omega)) (cwV 0 hts (wA_wsV wm_ml_X4_59 wm_im_X3_isFull wm_se_X3_isFull wm_in_X3 wm_cd_X3_isFull) rfl rfl rfl (by decide +kernel) ⟨Nat.le_of_ble_eq_true rfl, Nat.le_of_ble_eq_true rfl⟩) ⟨fun a U g mk q => by obtain ⟨q0, qP, qK⟩ := q; exact ⟨q0, qP, va_K.moved (u := U) (U := U.calling g mk a) (Vm.Alike.refl U.vm) qK⟩, va_recv (q := (RX3, TX3, 8)) (q0 := 2) hK hP rfl rfl, fun U hU hW => ⟨rfl, by rw [hU]; exact (hP.sub (ws' := wT cI ad aK aA aB aC aP aV aN n) [2, 3, 4, 5, 6, 7, 8, 9] rfl), va_K.moved hW.alike hK⟩⟩ rfl rfl hl.1 rfl (lv_room (Nat.le_of_ble_eq_true rfl)) dX4_term_81 ⟨Nat.zero_le _, Nat.zero_le _⟩) (fun r21 er21 => ?_)
      rcases Or.symm er21 with ⟨-, hy⟩ | ⟨rfl, -⟩
      · exact absurd hy (by omega)
      refine lv_if_eq (tgt := 97) hx hb dX4_term_84 (by decide) (fun _ => ?_) (fun h22 => absurd (by decide) h22)
      refine lv_aload_n hx hb dX4_term_97 rfl (lv_at hl 3 rfl) ?_
      refine va_get (D := (dC, dI)) (ci := 2) (v := .ref (ad 0)) (C := RX4) (T := TX4) (N := 5) hx hb hts (fun w h => List.mem_cons_of_mem _ (wf_X4 w h)) hown hK hP 0 rfl rfl 0 (by decide) (hts _ (List.mem_cons_of_mem _ wm_fl_X4_10)) (fun _ h9 => h9) rfl dX4_term_98 ?_
      refine lv_iload_n hx hb dX4_term_101 rfl (lv_at hl 4 rfl) ?_
      refine lv_iload_n hx hb dX4_term_102 rfl (lv_at hl 5 rfl) ?_
      refine lv_iload hx hb dX4_term_103 (lv_at hl 2 rfl) ?_
      refine lv_iload hx hb dX4_term_105 (lv_at hl 1 rfl) ?_
      have hPc := hP.sub (ws' := (wT cI ad aK aA aB aC aP aV aN n)) [2, 3, 4, 5, 6, 7, 8, 9] rfl
      have hDc := hD.sub (ws' := (wT cI ad aK aA aB aC aP aV aN n)) [2, 3, 4, 5, 6, 7, 8, 9] (by decide) rfl
      have hFc := va_free (wc := (wT cI ad aK aA aB aC aP aV aN n)) hD hS hA [2, 3, 4, 5, 6, 7, 8, 9] rfl
      refine va_calli (va_runV (C := RX3) (b := ad 0) (As := [.int (nI κ), .int (nI α), .int (nI β), .int (nI γ)]) (rest := []) ⟨hx, hb, hml, hown, hts⟩ (ctX3_append l dC dI cI ad aK aA aB aC aP aV aN n s.heap.size κ α β γ hn12 hκ hα (pq_lt hn f1 (by omega)) (pq_lt hn f2 (by omega)) (pq_lt hn f3 (by omega))) (cwV 4 hts (wA_wsV wm_ml_X4_68 wm_im_X3_append wm_se_X3_append wm_in_X3 wm_cd_X3_append) rfl rfl rfl (by decide +kernel) ⟨Nat.le_of_ble_eq_true rfl, Nat.le_of_ble_eq_true rfl⟩) ⟨fun a U g mk q => by obtain ⟨q0, q1, qP, qK, qD⟩ := q; exact ⟨q0, q1, qP, va_K.moved (u := U) (U := U.calling g mk a) (Vm.Alike.refl U.vm) qK, qD⟩, va_recv (q := (RX3, TX3, 8)) (q0 := 2) hK hP rfl rfl, fun U hU hW => ⟨rfl, by rw [hU], by rw [hU]; exact hPc, va_K.moved hW.alike hK, hDc.weaken (fun _ _ _ _ => trivial)⟩⟩ rfl rfl hl.1 rfl (lv_room (Nat.le_of_ble_eq_true rfl)) dX4_term_107 ⟨Nat.zero_le _, Nat.zero_le _⟩) hS (fun q _ h => hFc q h) hFc (fun r23 u t8 H1 locs ht8 hvm8 er23 hB hz1 hk1 hS => ?_)
      obtain ⟨hP1, hK1, hD1⟩ := hB
      rw [ht8] at hP1
      obtain ⟨hP, hD⟩ := va_join (wr := [(hf 0, .inr (2, [.ref (ad 0), .ref (sd 0), .ref (hf 1), .int ms, .int ck])), (hf 1, .inl (cI, 2, .inl aF)), (sd 0, .inr (0, [.ref (sd 1), .ref (sd 2), .int (nI mm), .int (nI lv)])), (sd 1, .inl (cI, 20, .inl aM)), (sd 2, .inl (cI, 6, .inl aS))]) (w1 := [(ad 0, .inr (1, [.ref (ad 1), .ref (ad 2), .ref (ad 3), .ref (ad 4), .ref (ad 5), .ref (ad 6), .ref (ad 7), .int (nI (n + 1))])), (ad 1, .inl (cI, 12, .inl (upd aK n (nI κ)))), (ad 2, .inl (cI, 12, .inl (upd aA n (nI α)))), (ad 3, .inl (cI, 12, .inl (upd aB n (nI β)))), (ad 4, .inl (cI, 12, .inl (upd aC n (nI γ)))), (ad 5, .inl (cI, 12, .inl (upd aP n (pp_new aP n κ α β γ)))), (ad 6, .inl (cI, 2, .inl (pc_nv (upd aP n (pp_new aP n κ α β γ)) aV n κ α 2))), (ad 7, .inl (cI, 12, .inl aN))]) hP hD [2, 3, 4, 5, 6, 7, 8, 9] [0, 1, 10, 11, 12] rfl rfl (by decide) (by decide) hk1 hFc hP1 hD1
      clear hPc hDc hFc hP1 hK1 hD1 hk1 hz1
      generalize H1 = H at hP hS ⊢
      have hP := hP.sub (ws' := [(hf 0, .inr (2, [.ref (ad 0), .ref (sd 0), .ref (hf 1), .int ms, .int ck])), (hf 1, .inl (cI, 2, .inl aF)), (ad 0, .inr (1, [.ref (ad 1), .ref (ad 2), .ref (ad 3), .ref (ad 4), .ref (ad 5), .ref (ad 6), .ref (ad 7), .int (nI (n + 1))])), (ad 1, .inl (cI, 12, .inl (upd aK n (nI κ)))), (ad 2, .inl (cI, 12, .inl (upd aA n (nI α)))), (ad 3, .inl (cI, 12, .inl (upd aB n (nI β)))), (ad 4, .inl (cI, 12, .inl (upd aC n (nI γ)))), (ad 5, .inl (cI, 12, .inl (upd aP n (pp_new aP n κ α β γ)))), (ad 6, .inl (cI, 2, .inl (pc_nv (upd aP n (pp_new aP n κ α β γ)) aV n κ α 2))), (ad 7, .inl (cI, 12, .inl aN)), (sd 0, .inr (0, [.ref (sd 1), .ref (sd 2), .int (nI mm), .int (nI lv)])), (sd 1, .inl (cI, 20, .inl aM)), (sd 2, .inl (cI, 6, .inl aS))]) [0, 1, 5, 6, 7, 8, 9, 10, 11, 12, 2, 3, 4] rfl
      have hD := hD.sub (ws' := [(hf 0, .inr (2, [.ref (ad 0), .ref (sd 0), .ref (hf 1), .int ms, .int ck])), (hf 1, .inl (cI, 2, .inl aF)), (ad 0, .inr (1, [.ref (ad 1), .ref (ad 2), .ref (ad 3), .ref (ad 4), .ref (ad 5), .ref (ad 6), .ref (ad 7), .int (nI (n + 1))])), (ad 1, .inl (cI, 12, .inl (upd aK n (nI κ)))), (ad 2, .inl (cI, 12, .inl (upd aA n (nI α)))), (ad 3, .inl (cI, 12, .inl (upd aB n (nI β)))), (ad 4, .inl (cI, 12, .inl (upd aC n (nI γ)))), (ad 5, .inl (cI, 12, .inl (upd aP n (pp_new aP n κ α β γ)))), (ad 6, .inl (cI, 2, .inl (pc_nv (upd aP n (pp_new aP n κ α β γ)) aV n κ α 2))), (ad 7, .inl (cI, 12, .inl aN)), (sd 0, .inr (0, [.ref (sd 1), .ref (sd 2), .int (nI mm), .int (nI lv)])), (sd 1, .inl (cI, 20, .inl aM)), (sd 2, .inl (cI, 6, .inl aS))]) [0, 1, 5, 6, 7, 8, 9, 10, 11, 12, 2, 3, 4] (by decide) rfl
      subst er23
      exact W.iret (v := nI n) hx hb hr (fun t9 ht9 hW9 => ⟨⟨nI n, (), rfl, rfl, by rw [ht9]; exact hP, va_K.moved hW9.alike hK, hD⟩, hS.F ht9⟩) hS.2.2 dX4_term_110
    · skip
      have h18 : pv_s3 κ = 0 := (nI_eq (a := (pv_s3 κ)) (b := 0) (by omega) (by omega)).mp h18
      have ec1 : γ = 0 := f3.1 h18
      refine lv_iconst (v := 0) hx hb dX4_term_46 (by decide) ?_
      refine lv_goto (tgt := 52) hx hb dX4_term_47 (by decide) ?_
      rw [show (0 : Int32) = nI γ by rw [ec1]; rfl]
      refine lv_istore (lv' := [(6, .int (nI γ)), (5, .int (nI β)), (0, .ref (hf 0)), (1, .int (nI κ)), (2, .int (nI α)), (3, .int b0), (4, .int c0)]) hx hb dX4_term_52 hl (by decide) rfl (fun ls hl => ?_)
      refine lv_aload_n hx hb dX4_term_54 rfl (lv_at hl 2 rfl) ?_
      refine va_get (D := (dC, dI)) (ci := 2) (v := .ref (ad 0)) (C := RX4) (T := TX4) (N := 5) hx hb hts (fun w h => List.mem_cons_of_mem _ (wf_X4 w h)) hown hK hP 0 rfl rfl 0 (by decide) (hts _ (List.mem_cons_of_mem _ wm_fl_X4_10)) (fun _ h9 => h9) rfl dX4_term_55 ?_
      refine lv_iload_n hx hb dX4_term_58 rfl (lv_at hl 3 rfl) ?_
      refine lv_iload_n hx hb dX4_term_59 rfl (lv_at hl 4 rfl) ?_
      refine lv_iload hx hb dX4_term_60 (lv_at hl 1 rfl) ?_
      refine lv_iload hx hb dX4_term_62 (lv_at hl 0 rfl) ?_
      refine vp_callSi (W.runV (C := RX3) (b := ad 0) (As := [.int (nI κ), .int (nI α), .int (nI β), .int (nI γ)]) (rest := []) ⟨hx, hb, hml, hown, hts⟩ (ctX3_find l dC dI cI ad aK aA aB aC aP aV aN n hn fk fa fb fc hk ha hbb hc hT κ α β γ hκ hα hβ hγ) (cwV 4 hts (wA_wsV wm_ml_X4_55 wm_im_X3_find wm_se_X3_find wm_in_X3 wm_cd_X3_find) rfl rfl rfl (by decide +kernel) ⟨Nat.le_of_ble_eq_true rfl, Nat.le_of_ble_eq_true rfl⟩) ⟨fun a U g mk q => by obtain ⟨q0, qP, qK⟩ := q; exact ⟨q0, qP, va_K.moved (u := U) (U := U.calling g mk a) (Vm.Alike.refl U.vm) qK⟩, va_recv (q := (RX3, TX3, 8)) (q0 := 2) hK hP rfl rfl, fun U hU hW => ⟨rfl, by rw [hU]; exact (hP.sub (ws' := wT cI ad aK aA aB aC aP aV aN n) [2, 3, 4, 5, 6, 7, 8, 9] rfl), va_K.moved hW.alike hK⟩⟩ rfl rfl hl.1 rfl (lv_room (Nat.le_of_ble_eq_true rfl)) dX4_term_64 ⟨Nat.zero_le _, Nat.zero_le _⟩) (fun r24 er24 => ?_)
      rw [hfd] at er24
      have er24 : r24 = -1 := er24
      subst er24
      refine lv_istore (lv' := [(7, .int (-1)), (6, .int (nI γ)), (5, .int (nI β)), (0, .ref (hf 0)), (1, .int (nI κ)), (2, .int (nI α)), (3, .int b0), (4, .int c0)]) hx hb dX4_term_67 hl (by decide) rfl (fun ls hl => ?_)
      refine lv_iload hx hb dX4_term_69 (lv_at hl 0 rfl) ?_
      refine lv_if_lt (tgt := 77) hx hb dX4_term_71 (by decide) (fun _ => ?_) (fun h25 => absurd (by decide) h25)
      refine lv_aload_n hx hb dX4_term_77 rfl (lv_at hl 3 rfl) ?_
      refine va_get (D := (dC, dI)) (ci := 2) (v := .ref (ad 0)) (C := RX4) (T := TX4) (N := 5) hx hb hts (fun w h => List.mem_cons_of_mem _ (wf_X4 w h)) hown hK hP 0 rfl rfl 0 (by decide) (hts _ (List.mem_cons_of_mem _ wm_fl_X4_10)) (fun _ h9 => h9) rfl dX4_term_78 ?_
      refine vp_callSi (W.runV (C := RX3) (b := ad 0) (As := []) (rest := []) ⟨hx, hb, hml, hown, hts⟩ (ctX3_isFull l dC dI cI ad aK aA aB aC aP aV aN n (by omega)) (cwV 0 hts (wA_wsV wm_ml_X4_59 wm_im_X3_isFull wm_se_X3_isFull wm_in_X3 wm_cd_X3_isFull) rfl rfl rfl (by decide +kernel) ⟨Nat.le_of_ble_eq_true rfl, Nat.le_of_ble_eq_true rfl⟩) ⟨fun a U g mk q => by obtain ⟨q0, qP, qK⟩ := q; exact ⟨q0, qP, va_K.moved (u := U) (U := U.calling g mk a) (Vm.Alike.refl U.vm) qK⟩, va_recv (q := (RX3, TX3, 8)) (q0 := 2) hK hP rfl rfl, fun U hU hW => ⟨rfl, by rw [hU]; exact (hP.sub (ws' := wT cI ad aK aA aB aC aP aV aN n) [2, 3, 4, 5, 6, 7, 8, 9] rfl), va_K.moved hW.alike hK⟩⟩ rfl rfl hl.1 rfl (lv_room (Nat.le_of_ble_eq_true rfl)) dX4_term_81 ⟨Nat.zero_le _, Nat.zero_le _⟩) (fun r26 er26 => ?_)
      rcases Or.symm er26 with ⟨-, hy⟩ | ⟨rfl, -⟩
      · exact absurd hy (by omega)
      refine lv_if_eq (tgt := 97) hx hb dX4_term_84 (by decide) (fun _ => ?_) (fun h27 => absurd (by decide) h27)
      refine lv_aload_n hx hb dX4_term_97 rfl (lv_at hl 3 rfl) ?_
      refine va_get (D := (dC, dI)) (ci := 2) (v := .ref (ad 0)) (C := RX4) (T := TX4) (N := 5) hx hb hts (fun w h => List.mem_cons_of_mem _ (wf_X4 w h)) hown hK hP 0 rfl rfl 0 (by decide) (hts _ (List.mem_cons_of_mem _ wm_fl_X4_10)) (fun _ h9 => h9) rfl dX4_term_98 ?_
      refine lv_iload_n hx hb dX4_term_101 rfl (lv_at hl 4 rfl) ?_
      refine lv_iload_n hx hb dX4_term_102 rfl (lv_at hl 5 rfl) ?_
      refine lv_iload hx hb dX4_term_103 (lv_at hl 2 rfl) ?_
      refine lv_iload hx hb dX4_term_105 (lv_at hl 1 rfl) ?_
      have hPc := hP.sub (ws' := (wT cI ad aK aA aB aC aP aV aN n)) [2, 3, 4, 5, 6, 7, 8, 9] rfl
      have hDc := hD.sub (ws' := (wT cI ad aK aA aB aC aP aV aN n)) [2, 3, 4, 5, 6, 7, 8, 9] (by decide) rfl
      have hFc := va_free (wc := (wT cI ad aK aA aB aC aP aV aN n)) hD hS hA [2, 3, 4, 5, 6, 7, 8, 9] rfl
      refine va_calli (va_runV (C := RX3) (b := ad 0) (As := [.int (nI κ), .int (nI α), .int (nI β), .int (nI γ)]) (rest := []) ⟨hx, hb, hml, hown, hts⟩ (ctX3_append l dC dI cI ad aK aA aB aC aP aV aN n s.heap.size κ α β γ hn12 hκ hα (pq_lt hn f1 (by omega)) (pq_lt hn f2 (by omega)) (pq_lt hn f3 (by omega))) (cwV 4 hts (wA_wsV wm_ml_X4_68 wm_im_X3_append wm_se_X3_append wm_in_X3 wm_cd_X3_append) rfl rfl rfl (by decide +kernel) ⟨Nat.le_of_ble_eq_true rfl, Nat.le_of_ble_eq_true rfl⟩) ⟨fun a U g mk q => by obtain ⟨q0, q1, qP, qK, qD⟩ := q; exact ⟨q0, q1, qP, va_K.moved (u := U) (U := U.calling g mk a) (Vm.Alike.refl U.vm) qK, qD⟩, va_recv (q := (RX3, TX3, 8)) (q0 := 2) hK hP rfl rfl, fun U hU hW => ⟨rfl, by rw [hU], by rw [hU]; exact hPc, va_K.moved hW.alike hK, hDc.weaken (fun _ _ _ _ => trivial)⟩⟩ rfl rfl hl.1 rfl (lv_room (Nat.le_of_ble_eq_true rfl)) dX4_term_107 ⟨Nat.zero_le _, Nat.zero_le _⟩) hS (fun q _ h => hFc q h) hFc (fun r28 u t8 H1 locs ht8 hvm8 er28 hB hz1 hk1 hS => ?_)
      obtain ⟨hP1, hK1, hD1⟩ := hB
      rw [ht8] at hP1
      obtain ⟨hP, hD⟩ := va_join (wr := [(hf 0, .inr (2, [.ref (ad 0), .ref (sd 0), .ref (hf 1), .int ms, .int ck])), (hf 1, .inl (cI, 2, .inl aF)), (sd 0, .inr (0, [.ref (sd 1), .ref (sd 2), .int (nI mm), .int (nI lv)])), (sd 1, .inl (cI, 20, .inl aM)), (sd 2, .inl (cI, 6, .inl aS))]) (w1 := [(ad 0, .inr (1, [.ref (ad 1), .ref (ad 2), .ref (ad 3), .ref (ad 4), .ref (ad 5), .ref (ad 6), .ref (ad 7), .int (nI (n + 1))])), (ad 1, .inl (cI, 12, .inl (upd aK n (nI κ)))), (ad 2, .inl (cI, 12, .inl (upd aA n (nI α)))), (ad 3, .inl (cI, 12, .inl (upd aB n (nI β)))), (ad 4, .inl (cI, 12, .inl (upd aC n (nI γ)))), (ad 5, .inl (cI, 12, .inl (upd aP n (pp_new aP n κ α β γ)))), (ad 6, .inl (cI, 2, .inl (pc_nv (upd aP n (pp_new aP n κ α β γ)) aV n κ α 2))), (ad 7, .inl (cI, 12, .inl aN))]) hP hD [2, 3, 4, 5, 6, 7, 8, 9] [0, 1, 10, 11, 12] rfl rfl (by decide) (by decide) hk1 hFc hP1 hD1
      clear hPc hDc hFc hP1 hK1 hD1 hk1 hz1
      generalize H1 = H at hP hS ⊢
      have hP := hP.sub (ws' := [(hf 0, .inr (2, [.ref (ad 0), .ref (sd 0), .ref (hf 1), .int ms, .int ck])), (hf 1, .inl (cI, 2, .inl aF)), (ad 0, .inr (1, [.ref (ad 1), .ref (ad 2), .ref (ad 3), .ref (ad 4), .ref (ad 5), .ref (ad 6), .ref (ad 7), .int (nI (n + 1))])), (ad 1, .inl (cI, 12, .inl (upd aK n (nI κ)))), (ad 2, .inl (cI, 12, .inl (upd aA n (nI α)))), (ad 3, .inl (cI, 12, .inl (upd aB n (nI β)))), (ad 4, .inl (cI, 12, .inl (upd aC n (nI γ)))), (ad 5, .inl (cI, 12, .inl (upd aP n (pp_new aP n κ α β γ)))), (ad 6, .inl (cI, 2, .inl (pc_nv (upd aP n (pp_new aP n κ α β γ)) aV n κ α 2))), (ad 7, .inl (cI, 12, .inl aN)), (sd 0, .inr (0, [.ref (sd 1), .ref (sd 2), .int (nI mm), .int (nI lv)])), (sd 1, .inl (cI, 20, .inl aM)), (sd 2, .inl (cI, 6, .inl aS))]) [0, 1, 5, 6, 7, 8, 9, 10, 11, 12, 2, 3, 4] rfl
      have hD := hD.sub (ws' := [(hf 0, .inr (2, [.ref (ad 0), .ref (sd 0), .ref (hf 1), .int ms, .int ck])), (hf 1, .inl (cI, 2, .inl aF)), (ad 0, .inr (1, [.ref (ad 1), .ref (ad 2), .ref (ad 3), .ref (ad 4), .ref (ad 5), .ref (ad 6), .ref (ad 7), .int (nI (n + 1))])), (ad 1, .inl (cI, 12, .inl (upd aK n (nI κ)))), (ad 2, .inl (cI, 12, .inl (upd aA n (nI α)))), (ad 3, .inl (cI, 12, .inl (upd aB n (nI β)))), (ad 4, .inl (cI, 12, .inl (upd aC n (nI γ)))), (ad 5, .inl (cI, 12, .inl (upd aP n (pp_new aP n κ α β γ)))), (ad 6, .inl (cI, 2, .inl (pc_nv (upd aP n (pp_new aP n κ α β γ)) aV n κ α 2))), (ad 7, .inl (cI, 12, .inl aN)), (sd 0, .inr (0, [.ref (sd 1), .ref (sd 2), .int (nI mm), .int (nI lv)])), (sd 1, .inl (cI, 20, .inl aM)), (sd 2, .inl (cI, 6, .inl aS))]) [0, 1, 5, 6, 7, 8, 9, 10, 11, 12, 2, 3, 4] (by decide) rfl
      subst er28
      exact W.iret (v := nI n) hx hb hr (fun t9 ht9 hW9 => ⟨⟨nI n, (), rfl, rfl, by rw [ht9]; exact hP, va_K.moved hW9.alike hK, hD⟩, hS.F ht9⟩) hS.2.2 dX4_term_110
set_option maxHeartbeats 4000000 in
set_option maxRecDepth 100000 in
theorem ctX4_claim0 (hl9 : l.stackTraces = false) (sa : Nat → Nat) (sz : Nat) (hn : n ≤ 12) (hm : mm ≤ 20) (fk : Nat → Nat) (hk : ∀ t, t < n → aK t = nI (fk t)) (hk2 : ∀ t, t < n → fk t < 20) (x : Int32) (hno : ¬ ∃ j, j < n ∧ x = nI j ∧ 10 ≤ fk j) : vx_Met l yX4_claim wsX4_claim ({ frames := 6, cells := 1, slots := 6, locals := 100 }) (va_Pc [.ref (hf 0), .int x] (fun U => U.heap.size = sz ∧ va_P (dC, dI) vwCl (wF cI hf ad sd aF ms ck aK aA aB aC aP aV aN n aM aS mm lv) U.heap ∧ va_K (dC, dI) vwCl [(cI, .int)] U ∧ va_D (fun _ => True) (wF cI hf ad sd aF ms ck aK aA aB aC aP aV aN n aM aS mm lv) ∧ tx_E (va_A (wF cI hf ad sd aF ms ck aK aA aB aC aP aV aN n aM aS mm lv) sz) sa U U.heap)) (va_Qi (fun _ (_ : Unit) => False) (fun _ _ => True) (va_A (wF cI hf ad sd aF ms ck aK aA aB aC aP aV aN n aM aS mm lv) sz)) (tx_X "java/lang/IllegalArgumentException" (dC, dI) vwCl (wF cI hf ad sd aF ms ck aK aA aB aC aP aV aN n aM aS mm lv) (va_A (wF cI hf ad sd aF ms ck aK aA aB aC aP aV aN n aM aS mm lv) sz)) 1 6 (va_A (wF cI hf ad sd aF ms ck aK aA aB aC aP aV aN n aM aS mm lv) sz) := by
  refine vx_ofW (cc := cX4_claim) (maxL := 2) (ret := (some .int)) (by decide) rfl ?_
  intro p e s m args below meth c s₁ B hml htab hv
  obtain ⟨rfl, hsz, hP, hK, hD0, hE⟩ := hv
  subst hsz
  have hx := B.exec
  have hb := B.bytes
  have hr := B.returns
  have hts := atoms_spec (ws := wsX4_claim) B.pre
  have hown : s.vm.findClass RX4 = some m.cls := findClass_of_methodNamed B.named
  have hlocks := B.notSynchronized
  have hl := lv_entry ([.ref (hf 0), .int x]) (n := 2) (Nat.le_of_ble_eq_true rfl)
  rw [lg_entry_eq]
  generalize (lg_sl ([.ref (hf 0), .int x]) ++ List.replicate (2 - (lg_sl ([.ref (hf 0), .int x])).length) Slot.unset).toArray = ls at hl ⊢
  have hl : lv_has ls 2 [(0, .ref (hf 0)), (1, .int x)] := hl
  have hD := hD0.self (sz := s.heap.size)
  generalize hAe : va_A (wF cI hf ad sd aF ms ck aK aA aB aC aP aV aN n aM aS mm lv) s.heap.size = A9 at hD hE ⊢
  have hA : ∀ q : Nat, s.heap.size ≤ q → A9 q := fun q h => by rw [← hAe]; exact Or.inr h
  have hS : va_S A9 s.heap s.heap [] := va_S.rf
  refine lv_aload_n hx hb dX4_claim_0 rfl (lv_at hl 0 rfl) ?_
  refine va_get (D := (dC, dI)) (ci := 2) (v := .ref (ad 0)) (C := RX4) (T := TX4) (N := 5) hx hb hts (fun w h => List.mem_cons_of_mem _ (wf_X4 w h)) hown hK hP 0 rfl rfl 0 (by decide) (hts _ (List.mem_cons_of_mem _ wm_fl_X4_10)) (fun _ h9 => h9) rfl dX4_claim_1 ?_
  refine lv_iload_n hx hb dX4_claim_4 rfl (lv_at hl 1 rfl) ?_
  refine vp_callSi (W.runV (C := RX3) (b := ad 0) (As := [.int x]) (rest := []) ⟨hx, hb, hml, hown, hts⟩ (ctX3_isTruth l dC dI cI ad aK aA aB aC aP aV aN n hn fk hk hk2 x) (cwV 1 hts (wA_wsV wm_ml_X4_71 wm_im_X3_isTruth wm_se_X3_isTruth wm_in_X3 wm_cd_X3_isTruth) rfl rfl rfl (by decide +kernel) ⟨Nat.le_of_ble_eq_true rfl, Nat.le_of_ble_eq_true rfl⟩) ⟨fun a U g mk q => by obtain ⟨q0, qP, qK⟩ := q; exact ⟨q0, qP, va_K.moved (u := U) (U := U.calling g mk a) (Vm.Alike.refl U.vm) qK⟩, va_recv (q := (RX3, TX3, 8)) (q0 := 2) hK hP rfl rfl, fun U hU hW => ⟨rfl, by rw [hU]; exact (hP.sub (ws' := wT cI ad aK aA aB aC aP aV aN n) [2, 3, 4, 5, 6, 7, 8, 9] rfl), va_K.moved hW.alike hK⟩⟩ rfl rfl hl.1 rfl (lv_room (Nat.le_of_ble_eq_true rfl)) dX4_claim_5 ⟨Nat.zero_le _, Nat.zero_le _⟩) (fun r1 er1 => ?_)
  rcases er1 with ⟨-, hy⟩ | ⟨rfl, -⟩
  · exact absurd hy hno
  refine lv_if_ne (tgt := 21) hx hb dX4_claim_8 (by decide) (fun h2 => absurd (by decide) h2) (fun _ => ?_)
  exact tx_throw (D := (dC, dI)) (cl := vwCl) (is := 75) (text := "no truth has this number") wm_cl_X4_39 wm_in_IllegalArgumentException (by decide) Bundle.six_0 Bundle.six_1 Bundle.six_2 Bundle.six_5 tx_wI tx_cI tx_gI (tx_hI hE) hx hb hl9 hown hts (by decide) hE hP hS (hl.1.trans hml.symm) dX4_claim_11 dX4_claim_14 dX4_claim_15 dX4_claim_17 dX4_claim_20 htab (Nat.le_of_ble_eq_true rfl) (Nat.le_of_ble_eq_true rfl) (Nat.le_of_ble_eq_true rfl) (Nat.le_of_ble_eq_true rfl) hlocks (Nat.le_refl _) (Nat.le_refl _)
set_option maxHeartbeats 4000000 in
set_option maxRecDepth 100000 in
theorem ctX4_claim1 (hl9 : l.stackTraces = false) (sa : Nat → Nat) (sz : Nat) (hn : n ≤ 12) (hm : mm ≤ 20) (fk : Nat → Nat) (hk : ∀ t, t < n → aK t = nI (fk t)) (hk2 : ∀ t, t < n → fk t < 20) (x : Int32) (hok : ∃ j, j < n ∧ x = nI j ∧ 10 ≤ fk j) (hm20 : mm = 20) : vx_Met l yX4_claim wsX4_claim ({ frames := 6, cells := 1, slots := 6, locals := 100 }) (va_Pc [.ref (hf 0), .int x] (fun U => U.heap.size = sz ∧ va_P (dC, dI) vwCl (wF cI hf ad sd aF ms ck aK aA aB aC aP aV aN n aM aS mm lv) U.heap ∧ va_K (dC, dI) vwCl [(cI, .int)] U ∧ va_D (fun _ => True) (wF cI hf ad sd aF ms ck aK aA aB aC aP aV aN n aM aS mm lv) ∧ tx_E (va_A (wF cI hf ad sd aF ms ck aK aA aB aC aP aV aN n aM aS mm lv) sz) sa U U.heap)) (va_Qi (fun _ (_ : Unit) => False) (fun _ _ => True) (va_A (wF cI hf ad sd aF ms ck aK aA aB aC aP aV aN n aM aS mm lv) sz)) (tx_X "java/lang/IllegalStateException" (dC, dI) vwCl (wF cI hf ad sd aF ms ck aK aA aB aC aP aV aN n aM aS mm lv) (va_A (wF cI hf ad sd aF ms ck aK aA aB aC aP aV aN n aM aS mm lv) sz)) 1 6 (va_A (wF cI hf ad sd aF ms ck aK aA aB aC aP aV aN n aM aS mm lv) sz) := by
  refine vx_ofW (cc := cX4_claim) (maxL := 2) (ret := (some .int)) (by decide) rfl ?_
  intro p e s m args below meth c s₁ B hml htab hv
  obtain ⟨rfl, hsz, hP, hK, hD0, hE⟩ := hv
  subst hsz
  have hx := B.exec
  have hb := B.bytes
  have hr := B.returns
  have hts := atoms_spec (ws := wsX4_claim) B.pre
  have hown : s.vm.findClass RX4 = some m.cls := findClass_of_methodNamed B.named
  have hlocks := B.notSynchronized
  have hl := lv_entry ([.ref (hf 0), .int x]) (n := 2) (Nat.le_of_ble_eq_true rfl)
  rw [lg_entry_eq]
  generalize (lg_sl ([.ref (hf 0), .int x]) ++ List.replicate (2 - (lg_sl ([.ref (hf 0), .int x])).length) Slot.unset).toArray = ls at hl ⊢
  have hl : lv_has ls 2 [(0, .ref (hf 0)), (1, .int x)] := hl
  have hD := hD0.self (sz := s.heap.size)
  generalize hAe : va_A (wF cI hf ad sd aF ms ck aK aA aB aC aP aV aN n aM aS mm lv) s.heap.size = A9 at hD hE ⊢
  have hA : ∀ q : Nat, s.heap.size ≤ q → A9 q := fun q h => by rw [← hAe]; exact Or.inr h
  have hS : va_S A9 s.heap s.heap [] := va_S.rf
  refine lv_aload_n hx hb dX4_claim_0 rfl (lv_at hl 0 rfl) ?_
  refine va_get (D := (dC, dI)) (ci := 2) (v := .ref (ad 0)) (C := RX4) (T := TX4) (N := 5) hx hb hts (fun w h => List.mem_cons_of_mem _ (wf_X4 w h)) hown hK hP 0 rfl rfl 0 (by decide) (hts _ (List.mem_cons_of_mem _ wm_fl_X4_10)) (fun _ h9 => h9) rfl dX4_claim_1 ?_
  refine lv_iload_n hx hb dX4_claim_4 rfl (lv_at hl 1 rfl) ?_
  refine vp_callSi (W.runV (C := RX3) (b := ad 0) (As := [.int x]) (rest := []) ⟨hx, hb, hml, hown, hts⟩ (ctX3_isTruth l dC dI cI ad aK aA aB aC aP aV aN n hn fk hk hk2 x) (cwV 1 hts (wA_wsV wm_ml_X4_71 wm_im_X3_isTruth wm_se_X3_isTruth wm_in_X3 wm_cd_X3_isTruth) rfl rfl rfl (by decide +kernel) ⟨Nat.le_of_ble_eq_true rfl, Nat.le_of_ble_eq_true rfl⟩) ⟨fun a U g mk q => by obtain ⟨q0, qP, qK⟩ := q; exact ⟨q0, qP, va_K.moved (u := U) (U := U.calling g mk a) (Vm.Alike.refl U.vm) qK⟩, va_recv (q := (RX3, TX3, 8)) (q0 := 2) hK hP rfl rfl, fun U hU hW => ⟨rfl, by rw [hU]; exact (hP.sub (ws' := wT cI ad aK aA aB aC aP aV aN n) [2, 3, 4, 5, 6, 7, 8, 9] rfl), va_K.moved hW.alike hK⟩⟩ rfl rfl hl.1 rfl (lv_room (Nat.le_of_ble_eq_true rfl)) dX4_claim_5 ⟨Nat.zero_le _, Nat.zero_le _⟩) (fun r1 er1 => ?_)
  rcases Or.symm er1 with ⟨-, hy⟩ | ⟨rfl, -⟩
  · exact absurd hok hy
  refine lv_if_ne (tgt := 21) hx hb dX4_claim_8 (by decide) (fun _ => ?_) (fun h2 => absurd h2 (by decide))
  refine lv_aload_n hx hb dX4_claim_21 rfl (lv_at hl 0 rfl) ?_
  refine va_get (D := (dC, dI)) (ci := 2) (v := .ref (sd 0)) (C := RX4) (T := TX4) (N := 5) hx hb hts (fun w h => List.mem_cons_of_mem _ (wf_X4 w h)) hown hK hP 0 rfl rfl 1 (by decide) (hts _ (List.mem_cons_of_mem _ wm_fl_X4_19)) (fun _ h9 => h9) rfl dX4_claim_22 ?_
  refine vp_callSi (W.runV (C := RX0) (b := sd 0) (As := []) (rest := []) ⟨hx, hb, hml, hown, hts⟩ (ctX0_isFull l dC dI cI sd aM aS mm lv hm) (cwV 0 hts (wA_wsV wm_ml_X4_77 wm_im_X0_isFull wm_se_X0_isFull wm_in_X0 wm_cd_X0_isFull) rfl rfl rfl (by decide +kernel) ⟨Nat.le_of_ble_eq_true rfl, Nat.le_of_ble_eq_true rfl⟩) ⟨fun a U g mk q => by obtain ⟨q0, qP, qK⟩ := q; exact ⟨q0, qP, va_K.moved (u := U) (U := U.calling g mk a) (Vm.Alike.refl U.vm) qK⟩, va_recv (q := (RX0, TX0, 4)) (q0 := 10) hK hP rfl rfl, fun U hU hW => ⟨rfl, by rw [hU]; exact (hP.sub (ws' := wS cI sd aM aS mm lv) [10, 11, 12] rfl), va_K.moved hW.alike hK⟩⟩ rfl rfl hl.1 rfl (lv_room (Nat.le_of_ble_eq_true rfl)) dX4_claim_25 ⟨Nat.zero_le _, Nat.zero_le _⟩) (fun r3 er3 => ?_)
  rcases er3 with ⟨-, hy⟩ | ⟨rfl, -⟩
  · exact absurd hy (by omega)
  refine lv_if_eq (tgt := 41) hx hb dX4_claim_28 (by decide) (fun h4 => absurd h4 (by decide)) (fun _ => ?_)
  exact tx_throw (D := (dC, dI)) (cl := vwCl) (is := 78) (text := "there are twenty claims") wm_cl_X4_63 wm_in_IllegalStateException (by decide) Bundle.six_0 Bundle.six_1 Bundle.six_2 Bundle.six_5 tx_wG tx_cG tx_gG (tx_hG hE) hx hb hl9 hown hts (by decide) hE hP hS (hl.1.trans hml.symm) dX4_claim_31 dX4_claim_34 dX4_claim_35 dX4_claim_37 dX4_claim_40 htab (Nat.le_of_ble_eq_true rfl) (Nat.le_of_ble_eq_true rfl) (Nat.le_of_ble_eq_true rfl) (Nat.le_of_ble_eq_true rfl) hlocks (Nat.le_refl _) (Nat.le_refl _)
set_option maxHeartbeats 4000000 in
set_option maxRecDepth 100000 in
theorem ctX4_claim2 (sz : Nat) (hn : n ≤ 12) (hm : mm ≤ 20) (fk : Nat → Nat) (hk : ∀ t, t < n → aK t = nI (fk t)) (hk2 : ∀ t, t < n → fk t < 20) (x : Int32) (hok : ∃ j, j < n ∧ x = nI j ∧ 10 ≤ fk j) (hm20 : mm < 20) : Met l yX4_claim wsX4_claim ({ frames := 6, cells := 0, slots := 0, locals := 100 }) (va_Pc [.ref (hf 0), .int x] (fun U => U.heap.size = sz ∧ va_P (dC, dI) vwCl (wF cI hf ad sd aF ms ck aK aA aB aC aP aV aN n aM aS mm lv) U.heap ∧ va_K (dC, dI) vwCl [(cI, .int)] U ∧ va_D (fun _ => True) (wF cI hf ad sd aF ms ck aK aA aB aC aP aV aN n aM aS mm lv))) (va_Qi (fun r _ => r = nI (mm + 1)) (fun (u : Unit) t9 => va_P (dC, dI) vwCl (wF cI hf ad sd aF ms ck aK aA aB aC aP aV aN n (upd aM mm x) aS (mm + 1) lv) t9.heap ∧ va_K (dC, dI) vwCl [(cI, .int)] t9 ∧ va_D (va_A (wF cI hf ad sd aF ms ck aK aA aB aC aP aV aN n aM aS mm lv) sz) (wF cI hf ad sd aF ms ck aK aA aB aC aP aV aN n (upd aM mm x) aS (mm + 1) lv)) (va_A (wF cI hf ad sd aF ms ck aK aA aB aC aP aV aN n aM aS mm lv) sz)) 0 0 (va_A (wF cI hf ad sd aF ms ck aK aA aB aC aP aV aN n aM aS mm lv) sz) := by
  refine Met.ofW (cc := cX4_claim) (maxL := 2) (ret := (some .int)) (by decide) rfl ?_
  intro p e s m args below meth c s₁ B hml hv
  obtain ⟨rfl, hsz, hP, hK, hD0⟩ := hv
  subst hsz
  have hx := B.exec
  have hb := B.bytes
  have hr := B.returns
  have hts := atoms_spec (ws := wsX4_claim) B.pre
  have hown : s.vm.findClass RX4 = some m.cls := findClass_of_methodNamed B.named
  have hlocks := B.notSynchronized
  have hl := lv_entry ([.ref (hf 0), .int x]) (n := 2) (Nat.le_of_ble_eq_true rfl)
  rw [lg_entry_eq]
  generalize (lg_sl ([.ref (hf 0), .int x]) ++ List.replicate (2 - (lg_sl ([.ref (hf 0), .int x])).length) Slot.unset).toArray = ls at hl ⊢
  have hl : lv_has ls 2 [(0, .ref (hf 0)), (1, .int x)] := hl
  have hD := hD0.self (sz := s.heap.size)
  generalize hAe : va_A (wF cI hf ad sd aF ms ck aK aA aB aC aP aV aN n aM aS mm lv) s.heap.size = A9 at hD ⊢
  have hA : ∀ q : Nat, s.heap.size ≤ q → A9 q := fun q h => by rw [← hAe]; exact Or.inr h
  have hS : va_S A9 s.heap s.heap [] := va_S.rf
  refine lv_aload_n hx hb dX4_claim_0 rfl (lv_at hl 0 rfl) ?_
  refine va_get (D := (dC, dI)) (ci := 2) (v := .ref (ad 0)) (C := RX4) (T := TX4) (N := 5) hx hb hts (fun w h => List.mem_cons_of_mem _ (wf_X4 w h)) hown hK hP 0 rfl rfl 0 (by decide) (hts _ (List.mem_cons_of_mem _ wm_fl_X4_10)) (fun _ h9 => h9) rfl dX4_claim_1 ?_
  refine lv_iload_n hx hb dX4_claim_4 rfl (lv_at hl 1 rfl) ?_
  refine vp_callSi (W.runV (C := RX3) (b := ad 0) (As := [.int x]) (rest := []) ⟨hx, hb, hml, hown, hts⟩ (ctX3_isTruth l dC dI cI ad aK aA aB aC aP aV aN n hn fk hk hk2 x) (cwV 1 hts (wA_wsV wm_ml_X4_71 wm_im_X3_isTruth wm_se_X3_isTruth wm_in_X3 wm_cd_X3_isTruth) rfl rfl rfl (by decide +kernel) ⟨Nat.le_of_ble_eq_true rfl, Nat.le_of_ble_eq_true rfl⟩) ⟨fun a U g mk q => by obtain ⟨q0, qP, qK⟩ := q; exact ⟨q0, qP, va_K.moved (u := U) (U := U.calling g mk a) (Vm.Alike.refl U.vm) qK⟩, va_recv (q := (RX3, TX3, 8)) (q0 := 2) hK hP rfl rfl, fun U hU hW => ⟨rfl, by rw [hU]; exact (hP.sub (ws' := wT cI ad aK aA aB aC aP aV aN n) [2, 3, 4, 5, 6, 7, 8, 9] rfl), va_K.moved hW.alike hK⟩⟩ rfl rfl hl.1 rfl (lv_room (Nat.le_of_ble_eq_true rfl)) dX4_claim_5 ⟨Nat.zero_le _, Nat.zero_le _⟩) (fun r1 er1 => ?_)
  rcases Or.symm er1 with ⟨-, hy⟩ | ⟨rfl, -⟩
  · exact absurd hok hy
  refine lv_if_ne (tgt := 21) hx hb dX4_claim_8 (by decide) (fun _ => ?_) (fun h2 => absurd h2 (by decide))
  refine lv_aload_n hx hb dX4_claim_21 rfl (lv_at hl 0 rfl) ?_
  refine va_get (D := (dC, dI)) (ci := 2) (v := .ref (sd 0)) (C := RX4) (T := TX4) (N := 5) hx hb hts (fun w h => List.mem_cons_of_mem _ (wf_X4 w h)) hown hK hP 0 rfl rfl 1 (by decide) (hts _ (List.mem_cons_of_mem _ wm_fl_X4_19)) (fun _ h9 => h9) rfl dX4_claim_22 ?_
  refine vp_callSi (W.runV (C := RX0) (b := sd 0) (As := []) (rest := []) ⟨hx, hb, hml, hown, hts⟩ (ctX0_isFull l dC dI cI sd aM aS mm lv hm) (cwV 0 hts (wA_wsV wm_ml_X4_77 wm_im_X0_isFull wm_se_X0_isFull wm_in_X0 wm_cd_X0_isFull) rfl rfl rfl (by decide +kernel) ⟨Nat.le_of_ble_eq_true rfl, Nat.le_of_ble_eq_true rfl⟩) ⟨fun a U g mk q => by obtain ⟨q0, qP, qK⟩ := q; exact ⟨q0, qP, va_K.moved (u := U) (U := U.calling g mk a) (Vm.Alike.refl U.vm) qK⟩, va_recv (q := (RX0, TX0, 4)) (q0 := 10) hK hP rfl rfl, fun U hU hW => ⟨rfl, by rw [hU]; exact (hP.sub (ws' := wS cI sd aM aS mm lv) [10, 11, 12] rfl), va_K.moved hW.alike hK⟩⟩ rfl rfl hl.1 rfl (lv_room (Nat.le_of_ble_eq_true rfl)) dX4_claim_25 ⟨Nat.zero_le _, Nat.zero_le _⟩) (fun r3 er3 => ?_)
  rcases Or.symm er3 with ⟨-, hy⟩ | ⟨rfl, -⟩
  · exact absurd hy (by omega)
  refine lv_if_eq (tgt := 41) hx hb dX4_claim_28 (by decide) (fun _ => ?_) (fun h4 => absurd (by decide) h4)
  refine lv_aload_n hx hb dX4_claim_41 rfl (lv_at hl 0 rfl) ?_
  refine va_get (D := (dC, dI)) (ci := 2) (v := .ref (sd 0)) (C := RX4) (T := TX4) (N := 5) hx hb hts (fun w h => List.mem_cons_of_mem _ (wf_X4 w h)) hown hK hP 0 rfl rfl 1 (by decide) (hts _ (List.mem_cons_of_mem _ wm_fl_X4_19)) (fun _ h9 => h9) rfl dX4_claim_42 ?_
  refine lv_iload_n hx hb dX4_claim_45 rfl (lv_at hl 1 rfl) ?_
  have hPc := hP.sub (ws' := (wS cI sd aM aS mm lv)) [10, 11, 12] rfl
  have hDc := hD.sub (ws' := (wS cI sd aM aS mm lv)) [10, 11, 12] (by decide) rfl
  have hFc := va_free (wc := (wS cI sd aM aS mm lv)) hD hS hA [10, 11, 12] rfl
  refine va_calli (va_runV (C := RX0) (b := sd 0) (As := [.int x]) (rest := []) ⟨hx, hb, hml, hown, hts⟩ (ctX0_push l dC dI cI sd aM aS mm lv s.heap.size hm20 x) (cwV 1 hts (wA_wsV wm_ml_X4_80 wm_im_X0_push wm_se_X0_push wm_in_X0 wm_cd_X0_push) rfl rfl rfl (by decide +kernel) ⟨Nat.le_of_ble_eq_true rfl, Nat.le_of_ble_eq_true rfl⟩) ⟨fun a U g mk q => by obtain ⟨q0, q1, qP, qK, qD⟩ := q; exact ⟨q0, q1, qP, va_K.moved (u := U) (U := U.calling g mk a) (Vm.Alike.refl U.vm) qK, qD⟩, va_recv (q := (RX0, TX0, 4)) (q0 := 10) hK hP rfl rfl, fun U hU hW => ⟨rfl, by rw [hU], by rw [hU]; exact hPc, va_K.moved hW.alike hK, hDc.weaken (fun _ _ _ _ => trivial)⟩⟩ rfl rfl hl.1 rfl (lv_room (Nat.le_of_ble_eq_true rfl)) dX4_claim_46 ⟨Nat.zero_le _, Nat.zero_le _⟩) hS (fun q _ h => hFc q h) hFc (fun r5 u t8 H1 locs ht8 hvm8 er5 hB hz1 hk1 hS => ?_)
  obtain ⟨hP1, hK1, hD1⟩ := hB
  rw [ht8] at hP1
  obtain ⟨hP, hD⟩ := va_join (wr := [(hf 0, .inr (2, [.ref (ad 0), .ref (sd 0), .ref (hf 1), .int ms, .int ck])), (hf 1, .inl (cI, 2, .inl aF)), (ad 0, .inr (1, [.ref (ad 1), .ref (ad 2), .ref (ad 3), .ref (ad 4), .ref (ad 5), .ref (ad 6), .ref (ad 7), .int (nI n)])), (ad 1, .inl (cI, 12, .inl aK)), (ad 2, .inl (cI, 12, .inl aA)), (ad 3, .inl (cI, 12, .inl aB)), (ad 4, .inl (cI, 12, .inl aC)), (ad 5, .inl (cI, 12, .inl aP)), (ad 6, .inl (cI, 2, .inl aV)), (ad 7, .inl (cI, 12, .inl aN))]) (w1 := [(sd 0, .inr (0, [.ref (sd 1), .ref (sd 2), .int (nI (mm + 1)), .int (nI lv)])), (sd 1, .inl (cI, 20, .inl (upd aM mm x))), (sd 2, .inl (cI, 6, .inl aS))]) hP hD [10, 11, 12] [0, 1, 2, 3, 4, 5, 6, 7, 8, 9] rfl rfl (by decide) (by decide) hk1 hFc hP1 hD1
  clear hPc hDc hFc hP1 hK1 hD1 hk1 hz1
  generalize H1 = H at hP hS ⊢
  have hP := hP.sub (ws' := [(hf 0, .inr (2, [.ref (ad 0), .ref (sd 0), .ref (hf 1), .int ms, .int ck])), (hf 1, .inl (cI, 2, .inl aF)), (ad 0, .inr (1, [.ref (ad 1), .ref (ad 2), .ref (ad 3), .ref (ad 4), .ref (ad 5), .ref (ad 6), .ref (ad 7), .int (nI n)])), (ad 1, .inl (cI, 12, .inl aK)), (ad 2, .inl (cI, 12, .inl aA)), (ad 3, .inl (cI, 12, .inl aB)), (ad 4, .inl (cI, 12, .inl aC)), (ad 5, .inl (cI, 12, .inl aP)), (ad 6, .inl (cI, 2, .inl aV)), (ad 7, .inl (cI, 12, .inl aN)), (sd 0, .inr (0, [.ref (sd 1), .ref (sd 2), .int (nI (mm + 1)), .int (nI lv)])), (sd 1, .inl (cI, 20, .inl (upd aM mm x))), (sd 2, .inl (cI, 6, .inl aS))]) [0, 1, 2, 3, 4, 5, 6, 7, 8, 9, 10, 11, 12] rfl
  have hD := hD.sub (ws' := [(hf 0, .inr (2, [.ref (ad 0), .ref (sd 0), .ref (hf 1), .int ms, .int ck])), (hf 1, .inl (cI, 2, .inl aF)), (ad 0, .inr (1, [.ref (ad 1), .ref (ad 2), .ref (ad 3), .ref (ad 4), .ref (ad 5), .ref (ad 6), .ref (ad 7), .int (nI n)])), (ad 1, .inl (cI, 12, .inl aK)), (ad 2, .inl (cI, 12, .inl aA)), (ad 3, .inl (cI, 12, .inl aB)), (ad 4, .inl (cI, 12, .inl aC)), (ad 5, .inl (cI, 12, .inl aP)), (ad 6, .inl (cI, 2, .inl aV)), (ad 7, .inl (cI, 12, .inl aN)), (sd 0, .inr (0, [.ref (sd 1), .ref (sd 2), .int (nI (mm + 1)), .int (nI lv)])), (sd 1, .inl (cI, 20, .inl (upd aM mm x))), (sd 2, .inl (cI, 6, .inl aS))]) [0, 1, 2, 3, 4, 5, 6, 7, 8, 9, 10, 11, 12] (by decide) rfl
  subst er5
  exact W.iret (v := nI (mm + 1)) hx hb hr (fun t9 ht9 hW9 => ⟨⟨nI (mm + 1), (), rfl, rfl, by rw [ht9]; exact hP, va_K.moved hW9.alike hK, hD⟩, hS.F ht9⟩) hS.2.2 dX4_claim_49
set_option maxHeartbeats 4000000 in
set_option maxRecDepth 100000 in
theorem ctX4_open0 (hl9 : l.stackTraces = false) (sa : Nat → Nat) (sz : Nat) (hlv : lv = 5) : vx_Met l yX4_open wsX4_open ({ frames := 6, cells := 1, slots := 6, locals := 100 }) (va_Pc [.ref (hf 0)] (fun U => U.heap.size = sz ∧ va_P (dC, dI) vwCl (wF cI hf ad sd aF ms ck aK aA aB aC aP aV aN n aM aS mm lv) U.heap ∧ va_K (dC, dI) vwCl [(cI, .int)] U ∧ va_D (fun _ => True) (wF cI hf ad sd aF ms ck aK aA aB aC aP aV aN n aM aS mm lv) ∧ tx_E (va_A (wF cI hf ad sd aF ms ck aK aA aB aC aP aV aN n aM aS mm lv) sz) sa U U.heap)) (va_Qi (fun _ (_ : Unit) => False) (fun _ _ => True) (va_A (wF cI hf ad sd aF ms ck aK aA aB aC aP aV aN n aM aS mm lv) sz)) (tx_X "java/lang/IllegalStateException" (dC, dI) vwCl (wF cI hf ad sd aF ms ck aK aA aB aC aP aV aN n aM aS mm lv) (va_A (wF cI hf ad sd aF ms ck aK aA aB aC aP aV aN n aM aS mm lv) sz)) 1 6 (va_A (wF cI hf ad sd aF ms ck aK aA aB aC aP aV aN n aM aS mm lv) sz) := by
  refine vx_ofW (cc := cX4_open) (maxL := 1) (ret := (some .int)) (by decide) rfl ?_
  intro p e s m args below meth c s₁ B hml htab hv
  obtain ⟨rfl, hsz, hP, hK, hD0, hE⟩ := hv
  subst hsz
  have hx := B.exec
  have hb := B.bytes
  have hr := B.returns
  have hts := atoms_spec (ws := wsX4_open) B.pre
  have hown : s.vm.findClass RX4 = some m.cls := findClass_of_methodNamed B.named
  have hlocks := B.notSynchronized
  have hl := lv_entry ([.ref (hf 0)]) (n := 1) (Nat.le_of_ble_eq_true rfl)
  rw [lg_entry_eq]
  generalize (lg_sl ([.ref (hf 0)]) ++ List.replicate (1 - (lg_sl ([.ref (hf 0)])).length) Slot.unset).toArray = ls at hl ⊢
  have hl : lv_has ls 1 [(0, .ref (hf 0))] := hl
  have hD := hD0.self (sz := s.heap.size)
  generalize hAe : va_A (wF cI hf ad sd aF ms ck aK aA aB aC aP aV aN n aM aS mm lv) s.heap.size = A9 at hD hE ⊢
  have hA : ∀ q : Nat, s.heap.size ≤ q → A9 q := fun q h => by rw [← hAe]; exact Or.inr h
  have hS : va_S A9 s.heap s.heap [] := va_S.rf
  refine lv_aload_n hx hb dX4_open_0 rfl (lv_at hl 0 rfl) ?_
  refine va_get (D := (dC, dI)) (ci := 2) (v := .ref (sd 0)) (C := RX4) (T := TX4) (N := 5) hx hb hts (fun w h => List.mem_cons_of_mem _ (wf_X4 w h)) hown hK hP 0 rfl rfl 1 (by decide) (hts _ (List.mem_cons_of_mem _ wm_fl_X4_19)) (fun _ h9 => h9) rfl dX4_open_1 ?_
  refine vp_callSi (W.runV (C := RX0) (b := sd 0) (As := []) (rest := []) ⟨hx, hb, hml, hown, hts⟩ (ctX0_top l dC dI cI sd aM aS mm lv) (cwV 0 hts (wA_wsV wm_ml_X4_83 wm_im_X0_top wm_se_X0_top wm_in_X0 wm_cd_X0_top) rfl rfl rfl (by decide +kernel) ⟨Nat.le_of_ble_eq_true rfl, Nat.le_of_ble_eq_true rfl⟩) ⟨fun a U g mk q => by obtain ⟨q0, qP, qK⟩ := q; exact ⟨q0, qP, va_K.moved (u := U) (U := U.calling g mk a) (Vm.Alike.refl U.vm) qK⟩, va_recv (q := (RX0, TX0, 4)) (q0 := 10) hK hP rfl rfl, fun U hU hW => ⟨rfl, by rw [hU]; exact (hP.sub (ws' := wS cI sd aM aS mm lv) [10, 11, 12] rfl), va_K.moved hW.alike hK⟩⟩ rfl rfl hl.1 rfl (lv_room (Nat.le_of_ble_eq_true rfl)) dX4_open_4 ⟨Nat.zero_le _, Nat.zero_le _⟩) (fun r1 er1 => ?_)
  subst er1
  refine lv_iconst (v := nI 5) hx hb dX4_open_7 (by decide) ?_
  refine lv_icmp_ne (tgt := 21) hx hb dX4_open_8 (by decide) (fun h2 => absurd (by rw [hlv]) h2) (fun _ => ?_)
  exact tx_throw (D := (dC, dI)) (cl := vwCl) (is := 87) (text := "the levels 0 to 5 are there") wm_cl_X4_63 wm_in_IllegalStateException (by decide) Bundle.six_0 Bundle.six_1 Bundle.six_2 Bundle.six_5 tx_wG tx_cG tx_gG (tx_hG hE) hx hb hl9 hown hts (by decide) hE hP hS (hl.1.trans hml.symm) dX4_open_11 dX4_open_14 dX4_open_15 dX4_open_17 dX4_open_20 htab (Nat.le_of_ble_eq_true rfl) (Nat.le_of_ble_eq_true rfl) (Nat.le_of_ble_eq_true rfl) (Nat.le_of_ble_eq_true rfl) hlocks (Nat.le_refl _) (Nat.le_refl _)
set_option maxHeartbeats 4000000 in
set_option maxRecDepth 100000 in
theorem ctX4_open1 (sz : Nat) (hlv : lv < 5) : Met l yX4_open wsX4_open ({ frames := 6, cells := 0, slots := 0, locals := 100 }) (va_Pc [.ref (hf 0)] (fun U => U.heap.size = sz ∧ va_P (dC, dI) vwCl (wF cI hf ad sd aF ms ck aK aA aB aC aP aV aN n aM aS mm lv) U.heap ∧ va_K (dC, dI) vwCl [(cI, .int)] U ∧ va_D (fun _ => True) (wF cI hf ad sd aF ms ck aK aA aB aC aP aV aN n aM aS mm lv))) (va_Qi (fun r _ => r = nI (lv + 1)) (fun (u : Unit) t9 => va_P (dC, dI) vwCl (wF cI hf ad sd aF ms ck aK aA aB aC aP aV aN n aM (upd aS (lv + 1) (nI mm)) mm (lv + 1)) t9.heap ∧ va_K (dC, dI) vwCl [(cI, .int)] t9 ∧ va_D (va_A (wF cI hf ad sd aF ms ck aK aA aB aC aP aV aN n aM aS mm lv) sz) (wF cI hf ad sd aF ms ck aK aA aB aC aP aV aN n aM (upd aS (lv + 1) (nI mm)) mm (lv + 1))) (va_A (wF cI hf ad sd aF ms ck aK aA aB aC aP aV aN n aM aS mm lv) sz)) 0 0 (va_A (wF cI hf ad sd aF ms ck aK aA aB aC aP aV aN n aM aS mm lv) sz) := by
  refine Met.ofW (cc := cX4_open) (maxL := 1) (ret := (some .int)) (by decide) rfl ?_
  intro p e s m args below meth c s₁ B hml hv
  obtain ⟨rfl, hsz, hP, hK, hD0⟩ := hv
  subst hsz
  have hx := B.exec
  have hb := B.bytes
  have hr := B.returns
  have hts := atoms_spec (ws := wsX4_open) B.pre
  have hown : s.vm.findClass RX4 = some m.cls := findClass_of_methodNamed B.named
  have hlocks := B.notSynchronized
  have hl := lv_entry ([.ref (hf 0)]) (n := 1) (Nat.le_of_ble_eq_true rfl)
  rw [lg_entry_eq]
  generalize (lg_sl ([.ref (hf 0)]) ++ List.replicate (1 - (lg_sl ([.ref (hf 0)])).length) Slot.unset).toArray = ls at hl ⊢
  have hl : lv_has ls 1 [(0, .ref (hf 0))] := hl
  have hD := hD0.self (sz := s.heap.size)
  generalize hAe : va_A (wF cI hf ad sd aF ms ck aK aA aB aC aP aV aN n aM aS mm lv) s.heap.size = A9 at hD ⊢
  have hA : ∀ q : Nat, s.heap.size ≤ q → A9 q := fun q h => by rw [← hAe]; exact Or.inr h
  have hS : va_S A9 s.heap s.heap [] := va_S.rf
  refine lv_aload_n hx hb dX4_open_0 rfl (lv_at hl 0 rfl) ?_
  refine va_get (D := (dC, dI)) (ci := 2) (v := .ref (sd 0)) (C := RX4) (T := TX4) (N := 5) hx hb hts (fun w h => List.mem_cons_of_mem _ (wf_X4 w h)) hown hK hP 0 rfl rfl 1 (by decide) (hts _ (List.mem_cons_of_mem _ wm_fl_X4_19)) (fun _ h9 => h9) rfl dX4_open_1 ?_
  refine vp_callSi (W.runV (C := RX0) (b := sd 0) (As := []) (rest := []) ⟨hx, hb, hml, hown, hts⟩ (ctX0_top l dC dI cI sd aM aS mm lv) (cwV 0 hts (wA_wsV wm_ml_X4_83 wm_im_X0_top wm_se_X0_top wm_in_X0 wm_cd_X0_top) rfl rfl rfl (by decide +kernel) ⟨Nat.le_of_ble_eq_true rfl, Nat.le_of_ble_eq_true rfl⟩) ⟨fun a U g mk q => by obtain ⟨q0, qP, qK⟩ := q; exact ⟨q0, qP, va_K.moved (u := U) (U := U.calling g mk a) (Vm.Alike.refl U.vm) qK⟩, va_recv (q := (RX0, TX0, 4)) (q0 := 10) hK hP rfl rfl, fun U hU hW => ⟨rfl, by rw [hU]; exact (hP.sub (ws' := wS cI sd aM aS mm lv) [10, 11, 12] rfl), va_K.moved hW.alike hK⟩⟩ rfl rfl hl.1 rfl (lv_room (Nat.le_of_ble_eq_true rfl)) dX4_open_4 ⟨Nat.zero_le _, Nat.zero_le _⟩) (fun r1 er1 => ?_)
  subst er1
  refine lv_iconst (v := nI 5) hx hb dX4_open_7 (by decide) ?_
  refine lv_icmp_ne (tgt := 21) hx hb dX4_open_8 (by decide) (fun _ => ?_) (fun h2 => absurd ((nI_eq (a := lv) (b := 5) (by omega) (by omega)).mp h2) (by omega))
  refine lv_aload_n hx hb dX4_open_21 rfl (lv_at hl 0 rfl) ?_
  refine va_get (D := (dC, dI)) (ci := 2) (v := .ref (sd 0)) (C := RX4) (T := TX4) (N := 5) hx hb hts (fun w h => List.mem_cons_of_mem _ (wf_X4 w h)) hown hK hP 0 rfl rfl 1 (by decide) (hts _ (List.mem_cons_of_mem _ wm_fl_X4_19)) (fun _ h9 => h9) rfl dX4_open_22 ?_
  have hPc := hP.sub (ws' := (wS cI sd aM aS mm lv)) [10, 11, 12] rfl
  have hDc := hD.sub (ws' := (wS cI sd aM aS mm lv)) [10, 11, 12] (by decide) rfl
  have hFc := va_free (wc := (wS cI sd aM aS mm lv)) hD hS hA [10, 11, 12] rfl
  refine va_calli (va_runV (C := RX0) (b := sd 0) (As := []) (rest := []) ⟨hx, hb, hml, hown, hts⟩ (ctX0_raise l dC dI cI sd aM aS mm lv s.heap.size hlv) (cwV 0 hts (wA_wsV wm_ml_X4_89 wm_im_X0_raise wm_se_X0_raise wm_in_X0 wm_cd_X0_raise) rfl rfl rfl (by decide +kernel) ⟨Nat.le_of_ble_eq_true rfl, Nat.le_of_ble_eq_true rfl⟩) ⟨fun a U g mk q => by obtain ⟨q0, q1, qP, qK, qD⟩ := q; exact ⟨q0, q1, qP, va_K.moved (u := U) (U := U.calling g mk a) (Vm.Alike.refl U.vm) qK, qD⟩, va_recv (q := (RX0, TX0, 4)) (q0 := 10) hK hP rfl rfl, fun U hU hW => ⟨rfl, by rw [hU], by rw [hU]; exact hPc, va_K.moved hW.alike hK, hDc.weaken (fun _ _ _ _ => trivial)⟩⟩ rfl rfl hl.1 rfl (lv_room (Nat.le_of_ble_eq_true rfl)) dX4_open_25 ⟨Nat.zero_le _, Nat.zero_le _⟩) hS (fun q _ h => hFc q h) hFc (fun r3 u t8 H1 locs ht8 hvm8 er3 hB hz1 hk1 hS => ?_)
  obtain ⟨hP1, hK1, hD1⟩ := hB
  rw [ht8] at hP1
  obtain ⟨hP, hD⟩ := va_join (wr := [(hf 0, .inr (2, [.ref (ad 0), .ref (sd 0), .ref (hf 1), .int ms, .int ck])), (hf 1, .inl (cI, 2, .inl aF)), (ad 0, .inr (1, [.ref (ad 1), .ref (ad 2), .ref (ad 3), .ref (ad 4), .ref (ad 5), .ref (ad 6), .ref (ad 7), .int (nI n)])), (ad 1, .inl (cI, 12, .inl aK)), (ad 2, .inl (cI, 12, .inl aA)), (ad 3, .inl (cI, 12, .inl aB)), (ad 4, .inl (cI, 12, .inl aC)), (ad 5, .inl (cI, 12, .inl aP)), (ad 6, .inl (cI, 2, .inl aV)), (ad 7, .inl (cI, 12, .inl aN))]) (w1 := [(sd 0, .inr (0, [.ref (sd 1), .ref (sd 2), .int (nI mm), .int (nI (lv + 1))])), (sd 1, .inl (cI, 20, .inl aM)), (sd 2, .inl (cI, 6, .inl (upd aS (lv + 1) (nI mm))))]) hP hD [10, 11, 12] [0, 1, 2, 3, 4, 5, 6, 7, 8, 9] rfl rfl (by decide) (by decide) hk1 hFc hP1 hD1
  clear hPc hDc hFc hP1 hK1 hD1 hk1 hz1
  generalize H1 = H at hP hS ⊢
  have hP := hP.sub (ws' := [(hf 0, .inr (2, [.ref (ad 0), .ref (sd 0), .ref (hf 1), .int ms, .int ck])), (hf 1, .inl (cI, 2, .inl aF)), (ad 0, .inr (1, [.ref (ad 1), .ref (ad 2), .ref (ad 3), .ref (ad 4), .ref (ad 5), .ref (ad 6), .ref (ad 7), .int (nI n)])), (ad 1, .inl (cI, 12, .inl aK)), (ad 2, .inl (cI, 12, .inl aA)), (ad 3, .inl (cI, 12, .inl aB)), (ad 4, .inl (cI, 12, .inl aC)), (ad 5, .inl (cI, 12, .inl aP)), (ad 6, .inl (cI, 2, .inl aV)), (ad 7, .inl (cI, 12, .inl aN)), (sd 0, .inr (0, [.ref (sd 1), .ref (sd 2), .int (nI mm), .int (nI (lv + 1))])), (sd 1, .inl (cI, 20, .inl aM)), (sd 2, .inl (cI, 6, .inl (upd aS (lv + 1) (nI mm))))]) [0, 1, 2, 3, 4, 5, 6, 7, 8, 9, 10, 11, 12] rfl
  have hD := hD.sub (ws' := [(hf 0, .inr (2, [.ref (ad 0), .ref (sd 0), .ref (hf 1), .int ms, .int ck])), (hf 1, .inl (cI, 2, .inl aF)), (ad 0, .inr (1, [.ref (ad 1), .ref (ad 2), .ref (ad 3), .ref (ad 4), .ref (ad 5), .ref (ad 6), .ref (ad 7), .int (nI n)])), (ad 1, .inl (cI, 12, .inl aK)), (ad 2, .inl (cI, 12, .inl aA)), (ad 3, .inl (cI, 12, .inl aB)), (ad 4, .inl (cI, 12, .inl aC)), (ad 5, .inl (cI, 12, .inl aP)), (ad 6, .inl (cI, 2, .inl aV)), (ad 7, .inl (cI, 12, .inl aN)), (sd 0, .inr (0, [.ref (sd 1), .ref (sd 2), .int (nI mm), .int (nI (lv + 1))])), (sd 1, .inl (cI, 20, .inl aM)), (sd 2, .inl (cI, 6, .inl (upd aS (lv + 1) (nI mm))))]) [0, 1, 2, 3, 4, 5, 6, 7, 8, 9, 10, 11, 12] (by decide) rfl
  subst er3
  exact W.iret (v := nI (lv + 1)) hx hb hr (fun t9 ht9 hW9 => ⟨⟨nI (lv + 1), (), rfl, rfl, by rw [ht9]; exact hP, va_K.moved hW9.alike hK, hD⟩, hS.F ht9⟩) hS.2.2 dX4_open_28
set_option maxHeartbeats 4000000 in
set_option maxRecDepth 100000 in
theorem ctX4_close0 (hl9 : l.stackTraces = false) (sa : Nat → Nat) (sz : Nat) : vx_Met l yX4_close wsX4_close ({ frames := 6, cells := 1, slots := 6, locals := 100 }) (va_Pc [.ref (hf 0)] (fun U => U.heap.size = sz ∧ va_P (dC, dI) vwCl (wF cI hf ad sd aF ms ck aK aA aB aC aP aV aN n aM aS mm 0) U.heap ∧ va_K (dC, dI) vwCl [(cI, .int)] U ∧ va_D (fun _ => True) (wF cI hf ad sd aF ms ck aK aA aB aC aP aV aN n aM aS mm 0) ∧ tx_E (va_A (wF cI hf ad sd aF ms ck aK aA aB aC aP aV aN n aM aS mm 0) sz) sa U U.heap)) (va_Qi (fun _ (_ : Unit) => False) (fun _ _ => True) (va_A (wF cI hf ad sd aF ms ck aK aA aB aC aP aV aN n aM aS mm 0) sz)) (tx_X "java/lang/IllegalStateException" (dC, dI) vwCl (wF cI hf ad sd aF ms ck aK aA aB aC aP aV aN n aM aS mm 0) (va_A (wF cI hf ad sd aF ms ck aK aA aB aC aP aV aN n aM aS mm 0) sz)) 1 6 (va_A (wF cI hf ad sd aF ms ck aK aA aB aC aP aV aN n aM aS mm 0) sz) := by
  refine vx_ofW (cc := cX4_close) (maxL := 1) (ret := (some .int)) (by decide) rfl ?_
  intro p e s m args below meth c s₁ B hml htab hv
  obtain ⟨rfl, hsz, hP, hK, hD0, hE⟩ := hv
  subst hsz
  have hx := B.exec
  have hb := B.bytes
  have hr := B.returns
  have hts := atoms_spec (ws := wsX4_close) B.pre
  have hown : s.vm.findClass RX4 = some m.cls := findClass_of_methodNamed B.named
  have hlocks := B.notSynchronized
  have hl := lv_entry ([.ref (hf 0)]) (n := 1) (Nat.le_of_ble_eq_true rfl)
  rw [lg_entry_eq]
  generalize (lg_sl ([.ref (hf 0)]) ++ List.replicate (1 - (lg_sl ([.ref (hf 0)])).length) Slot.unset).toArray = ls at hl ⊢
  have hl : lv_has ls 1 [(0, .ref (hf 0))] := hl
  have hD := hD0.self (sz := s.heap.size)
  generalize hAe : va_A (wF cI hf ad sd aF ms ck aK aA aB aC aP aV aN n aM aS mm 0) s.heap.size = A9 at hD hE ⊢
  have hA : ∀ q : Nat, s.heap.size ≤ q → A9 q := fun q h => by rw [← hAe]; exact Or.inr h
  have hS : va_S A9 s.heap s.heap [] := va_S.rf
  refine lv_aload_n hx hb dX4_close_0 rfl (lv_at hl 0 rfl) ?_
  refine va_get (D := (dC, dI)) (ci := 2) (v := .ref (sd 0)) (C := RX4) (T := TX4) (N := 5) hx hb hts (fun w h => List.mem_cons_of_mem _ (wf_X4 w h)) hown hK hP 0 rfl rfl 1 (by decide) (hts _ (List.mem_cons_of_mem _ wm_fl_X4_19)) (fun _ h9 => h9) rfl dX4_close_1 ?_
  refine vp_callSi (W.runV (C := RX0) (b := sd 0) (As := []) (rest := []) ⟨hx, hb, hml, hown, hts⟩ (ctX0_top l dC dI cI sd aM aS mm 0) (cwV 0 hts (wA_wsV wm_ml_X4_83 wm_im_X0_top wm_se_X0_top wm_in_X0 wm_cd_X0_top) rfl rfl rfl (by decide +kernel) ⟨Nat.le_of_ble_eq_true rfl, Nat.le_of_ble_eq_true rfl⟩) ⟨fun a U g mk q => by obtain ⟨q0, qP, qK⟩ := q; exact ⟨q0, qP, va_K.moved (u := U) (U := U.calling g mk a) (Vm.Alike.refl U.vm) qK⟩, va_recv (q := (RX0, TX0, 4)) (q0 := 10) hK hP rfl rfl, fun U hU hW => ⟨rfl, by rw [hU]; exact (hP.sub (ws' := wS cI sd aM aS mm 0) [10, 11, 12] rfl), va_K.moved hW.alike hK⟩⟩ rfl rfl hl.1 rfl (lv_room (Nat.le_of_ble_eq_true rfl)) dX4_close_4 ⟨Nat.zero_le _, Nat.zero_le _⟩) (fun r1 er1 => ?_)
  subst er1
  refine lv_if_ne (tgt := 20) hx hb dX4_close_7 (by decide) (fun h2 => absurd rfl h2) (fun _ => ?_)
  exact tx_throw (D := (dC, dI)) (cl := vwCl) (is := 92) (text := "level 0 is always there") wm_cl_X4_63 wm_in_IllegalStateException (by decide) Bundle.six_0 Bundle.six_1 Bundle.six_2 Bundle.six_5 tx_wG tx_cG tx_gG (tx_hG hE) hx hb hl9 hown hts (by decide) hE hP hS (hl.1.trans hml.symm) dX4_close_10 dX4_close_13 dX4_close_14 dX4_close_16 dX4_close_19 htab (Nat.le_of_ble_eq_true rfl) (Nat.le_of_ble_eq_true rfl) (Nat.le_of_ble_eq_true rfl) (Nat.le_of_ble_eq_true rfl) hlocks (Nat.le_refl _) (Nat.le_refl _)
set_option maxHeartbeats 4000000 in
set_option maxRecDepth 100000 in
theorem ctX4_close1 (sz v0 : Nat) (hlv : lv < 5) (hv0 : v0 ≤ mm) (has : aS (lv + 1) = nI v0) : Met l yX4_close wsX4_close ({ frames := 6, cells := 0, slots := 0, locals := 100 }) (va_Pc [.ref (hf 0)] (fun U => U.heap.size = sz ∧ va_P (dC, dI) vwCl (wF cI hf ad sd aF ms ck aK aA aB aC aP aV aN n aM aS mm (lv + 1)) U.heap ∧ va_K (dC, dI) vwCl [(cI, .int)] U ∧ va_D (fun _ => True) (wF cI hf ad sd aF ms ck aK aA aB aC aP aV aN n aM aS mm (lv + 1)))) (va_Qi (fun r _ => r = nI (mm - v0)) (fun (u : Unit) t9 => va_P (dC, dI) vwCl (wF cI hf ad sd aF ms ck aK aA aB aC aP aV aN n aM aS v0 lv) t9.heap ∧ va_K (dC, dI) vwCl [(cI, .int)] t9 ∧ va_D (va_A (wF cI hf ad sd aF ms ck aK aA aB aC aP aV aN n aM aS mm (lv + 1)) sz) (wF cI hf ad sd aF ms ck aK aA aB aC aP aV aN n aM aS v0 lv)) (va_A (wF cI hf ad sd aF ms ck aK aA aB aC aP aV aN n aM aS mm (lv + 1)) sz)) 0 0 (va_A (wF cI hf ad sd aF ms ck aK aA aB aC aP aV aN n aM aS mm (lv + 1)) sz) := by
  refine Met.ofW (cc := cX4_close) (maxL := 1) (ret := (some .int)) (by decide) rfl ?_
  intro p e s m args below meth c s₁ B hml hv
  obtain ⟨rfl, hsz, hP, hK, hD0⟩ := hv
  subst hsz
  have hx := B.exec
  have hb := B.bytes
  have hr := B.returns
  have hts := atoms_spec (ws := wsX4_close) B.pre
  have hown : s.vm.findClass RX4 = some m.cls := findClass_of_methodNamed B.named
  have hlocks := B.notSynchronized
  have hl := lv_entry ([.ref (hf 0)]) (n := 1) (Nat.le_of_ble_eq_true rfl)
  rw [lg_entry_eq]
  generalize (lg_sl ([.ref (hf 0)]) ++ List.replicate (1 - (lg_sl ([.ref (hf 0)])).length) Slot.unset).toArray = ls at hl ⊢
  have hl : lv_has ls 1 [(0, .ref (hf 0))] := hl
  have hD := hD0.self (sz := s.heap.size)
  generalize hAe : va_A (wF cI hf ad sd aF ms ck aK aA aB aC aP aV aN n aM aS mm (lv + 1)) s.heap.size = A9 at hD ⊢
  have hA : ∀ q : Nat, s.heap.size ≤ q → A9 q := fun q h => by rw [← hAe]; exact Or.inr h
  have hS : va_S A9 s.heap s.heap [] := va_S.rf
  refine lv_aload_n hx hb dX4_close_0 rfl (lv_at hl 0 rfl) ?_
  refine va_get (D := (dC, dI)) (ci := 2) (v := .ref (sd 0)) (C := RX4) (T := TX4) (N := 5) hx hb hts (fun w h => List.mem_cons_of_mem _ (wf_X4 w h)) hown hK hP 0 rfl rfl 1 (by decide) (hts _ (List.mem_cons_of_mem _ wm_fl_X4_19)) (fun _ h9 => h9) rfl dX4_close_1 ?_
  refine vp_callSi (W.runV (C := RX0) (b := sd 0) (As := []) (rest := []) ⟨hx, hb, hml, hown, hts⟩ (ctX0_top l dC dI cI sd aM aS mm (lv + 1)) (cwV 0 hts (wA_wsV wm_ml_X4_83 wm_im_X0_top wm_se_X0_top wm_in_X0 wm_cd_X0_top) rfl rfl rfl (by decide +kernel) ⟨Nat.le_of_ble_eq_true rfl, Nat.le_of_ble_eq_true rfl⟩) ⟨fun a U g mk q => by obtain ⟨q0, qP, qK⟩ := q; exact ⟨q0, qP, va_K.moved (u := U) (U := U.calling g mk a) (Vm.Alike.refl U.vm) qK⟩, va_recv (q := (RX0, TX0, 4)) (q0 := 10) hK hP rfl rfl, fun U hU hW => ⟨rfl, by rw [hU]; exact (hP.sub (ws' := wS cI sd aM aS mm (lv + 1)) [10, 11, 12] rfl), va_K.moved hW.alike hK⟩⟩ rfl rfl hl.1 rfl (lv_room (Nat.le_of_ble_eq_true rfl)) dX4_close_4 ⟨Nat.zero_le _, Nat.zero_le _⟩) (fun r1 er1 => ?_)
  subst er1
  refine lv_if_ne (tgt := 20) hx hb dX4_close_7 (by decide) (fun _ => ?_) (fun h2 => absurd ((nI_eq (a := lv + 1) (b := 0) (by omega) (by omega)).mp h2) (by omega))
  refine lv_aload_n hx hb dX4_close_20 rfl (lv_at hl 0 rfl) ?_
  refine va_get (D := (dC, dI)) (ci := 2) (v := .ref (sd 0)) (C := RX4) (T := TX4) (N := 5) hx hb hts (fun w h => List.mem_cons_of_mem _ (wf_X4 w h)) hown hK hP 0 rfl rfl 1 (by decide) (hts _ (List.mem_cons_of_mem _ wm_fl_X4_19)) (fun _ h9 => h9) rfl dX4_close_21 ?_
  have hPc := hP.sub (ws' := (wS cI sd aM aS mm (lv + 1))) [10, 11, 12] rfl
  have hDc := hD.sub (ws' := (wS cI sd aM aS mm (lv + 1))) [10, 11, 12] (by decide) rfl
  have hFc := va_free (wc := (wS cI sd aM aS mm (lv + 1))) hD hS hA [10, 11, 12] rfl
  refine va_calli (va_runV (C := RX0) (b := sd 0) (As := []) (rest := []) ⟨hx, hb, hml, hown, hts⟩ (ctX0_drop l dC dI cI sd aM aS mm lv s.heap.size v0 hlv hv0 has) (cwV 0 hts (wA_wsV wm_ml_X4_94 wm_im_X0_drop wm_se_X0_drop wm_in_X0 wm_cd_X0_drop) rfl rfl rfl (by decide +kernel) ⟨Nat.le_of_ble_eq_true rfl, Nat.le_of_ble_eq_true rfl⟩) ⟨fun a U g mk q => by obtain ⟨q0, q1, qP, qK, qD⟩ := q; exact ⟨q0, q1, qP, va_K.moved (u := U) (U := U.calling g mk a) (Vm.Alike.refl U.vm) qK, qD⟩, va_recv (q := (RX0, TX0, 4)) (q0 := 10) hK hP rfl rfl, fun U hU hW => ⟨rfl, by rw [hU], by rw [hU]; exact hPc, va_K.moved hW.alike hK, hDc.weaken (fun _ _ _ _ => trivial)⟩⟩ rfl rfl hl.1 rfl (lv_room (Nat.le_of_ble_eq_true rfl)) dX4_close_24 ⟨Nat.zero_le _, Nat.zero_le _⟩) hS (fun q _ h => hFc q h) hFc (fun r3 u t8 H1 locs ht8 hvm8 er3 hB hz1 hk1 hS => ?_)
  obtain ⟨hP1, hK1, hD1⟩ := hB
  rw [ht8] at hP1
  obtain ⟨hP, hD⟩ := va_join (wr := [(hf 0, .inr (2, [.ref (ad 0), .ref (sd 0), .ref (hf 1), .int ms, .int ck])), (hf 1, .inl (cI, 2, .inl aF)), (ad 0, .inr (1, [.ref (ad 1), .ref (ad 2), .ref (ad 3), .ref (ad 4), .ref (ad 5), .ref (ad 6), .ref (ad 7), .int (nI n)])), (ad 1, .inl (cI, 12, .inl aK)), (ad 2, .inl (cI, 12, .inl aA)), (ad 3, .inl (cI, 12, .inl aB)), (ad 4, .inl (cI, 12, .inl aC)), (ad 5, .inl (cI, 12, .inl aP)), (ad 6, .inl (cI, 2, .inl aV)), (ad 7, .inl (cI, 12, .inl aN))]) (w1 := [(sd 0, .inr (0, [.ref (sd 1), .ref (sd 2), .int (nI v0), .int (nI lv)])), (sd 1, .inl (cI, 20, .inl aM)), (sd 2, .inl (cI, 6, .inl aS))]) hP hD [10, 11, 12] [0, 1, 2, 3, 4, 5, 6, 7, 8, 9] rfl rfl (by decide) (by decide) hk1 hFc hP1 hD1
  clear hPc hDc hFc hP1 hK1 hD1 hk1 hz1
  generalize H1 = H at hP hS ⊢
  have hP := hP.sub (ws' := [(hf 0, .inr (2, [.ref (ad 0), .ref (sd 0), .ref (hf 1), .int ms, .int ck])), (hf 1, .inl (cI, 2, .inl aF)), (ad 0, .inr (1, [.ref (ad 1), .ref (ad 2), .ref (ad 3), .ref (ad 4), .ref (ad 5), .ref (ad 6), .ref (ad 7), .int (nI n)])), (ad 1, .inl (cI, 12, .inl aK)), (ad 2, .inl (cI, 12, .inl aA)), (ad 3, .inl (cI, 12, .inl aB)), (ad 4, .inl (cI, 12, .inl aC)), (ad 5, .inl (cI, 12, .inl aP)), (ad 6, .inl (cI, 2, .inl aV)), (ad 7, .inl (cI, 12, .inl aN)), (sd 0, .inr (0, [.ref (sd 1), .ref (sd 2), .int (nI v0), .int (nI lv)])), (sd 1, .inl (cI, 20, .inl aM)), (sd 2, .inl (cI, 6, .inl aS))]) [0, 1, 2, 3, 4, 5, 6, 7, 8, 9, 10, 11, 12] rfl
  have hD := hD.sub (ws' := [(hf 0, .inr (2, [.ref (ad 0), .ref (sd 0), .ref (hf 1), .int ms, .int ck])), (hf 1, .inl (cI, 2, .inl aF)), (ad 0, .inr (1, [.ref (ad 1), .ref (ad 2), .ref (ad 3), .ref (ad 4), .ref (ad 5), .ref (ad 6), .ref (ad 7), .int (nI n)])), (ad 1, .inl (cI, 12, .inl aK)), (ad 2, .inl (cI, 12, .inl aA)), (ad 3, .inl (cI, 12, .inl aB)), (ad 4, .inl (cI, 12, .inl aC)), (ad 5, .inl (cI, 12, .inl aP)), (ad 6, .inl (cI, 2, .inl aV)), (ad 7, .inl (cI, 12, .inl aN)), (sd 0, .inr (0, [.ref (sd 1), .ref (sd 2), .int (nI v0), .int (nI lv)])), (sd 1, .inl (cI, 20, .inl aM)), (sd 2, .inl (cI, 6, .inl aS))]) [0, 1, 2, 3, 4, 5, 6, 7, 8, 9, 10, 11, 12] (by decide) rfl
  subst er3
  exact W.iret (v := nI (mm - v0)) hx hb hr (fun t9 ht9 hW9 => ⟨⟨nI (mm - v0), (), rfl, rfl, by rw [ht9]; exact hP, va_K.moved hW9.alike hK, hD⟩, hS.F ht9⟩) hS.2.2 dX4_close_27
set_option maxHeartbeats 4000000 in
set_option maxRecDepth 100000 in
theorem ctX4_model0 (hl9 : l.stackTraces = false) (sa : Nat → Nat) (sz : Nat) (x : Int32) (hno : ¬ ∃ j, j < 2 ∧ x = nI j) : vx_Met l yX4_model wsX4_model ({ frames := 6, cells := 1, slots := 6, locals := 100 }) (va_Pc [.ref (hf 0), .int x] (fun U => U.heap.size = sz ∧ va_P (dC, dI) vwCl (wF cI hf ad sd aF ms ck aK aA aB aC aP aV aN n aM aS mm lv) U.heap ∧ va_K (dC, dI) vwCl [(cI, .int)] U ∧ va_D (fun _ => True) (wF cI hf ad sd aF ms ck aK aA aB aC aP aV aN n aM aS mm lv) ∧ tx_E (va_A (wF cI hf ad sd aF ms ck aK aA aB aC aP aV aN n aM aS mm lv) sz) sa U U.heap)) (va_Qi (fun _ (_ : Unit) => False) (fun _ _ => True) (va_A (wF cI hf ad sd aF ms ck aK aA aB aC aP aV aN n aM aS mm lv) sz)) (tx_X "java/lang/IllegalArgumentException" (dC, dI) vwCl (wF cI hf ad sd aF ms ck aK aA aB aC aP aV aN n aM aS mm lv) (va_A (wF cI hf ad sd aF ms ck aK aA aB aC aP aV aN n aM aS mm lv) sz)) 1 6 (va_A (wF cI hf ad sd aF ms ck aK aA aB aC aP aV aN n aM aS mm lv) sz) := by
  refine vx_ofW (cc := cX4_model) (maxL := 2) (ret := (some .int)) (by decide) rfl ?_
  intro p e s m args below meth c s₁ B hml htab hv
  obtain ⟨rfl, hsz, hP, hK, hD0, hE⟩ := hv
  subst hsz
  have hx := B.exec
  have hb := B.bytes
  have hr := B.returns
  have hts := atoms_spec (ws := wsX4_model) B.pre
  have hown : s.vm.findClass RX4 = some m.cls := findClass_of_methodNamed B.named
  have hlocks := B.notSynchronized
  have hl := lv_entry ([.ref (hf 0), .int x]) (n := 2) (Nat.le_of_ble_eq_true rfl)
  rw [lg_entry_eq]
  generalize (lg_sl ([.ref (hf 0), .int x]) ++ List.replicate (2 - (lg_sl ([.ref (hf 0), .int x])).length) Slot.unset).toArray = ls at hl ⊢
  have hl : lv_has ls 2 [(0, .ref (hf 0)), (1, .int x)] := hl
  have hD := hD0.self (sz := s.heap.size)
  generalize hAe : va_A (wF cI hf ad sd aF ms ck aK aA aB aC aP aV aN n aM aS mm lv) s.heap.size = A9 at hD hE ⊢
  have hA : ∀ q : Nat, s.heap.size ≤ q → A9 q := fun q h => by rw [← hAe]; exact Or.inr h
  have hS : va_S A9 s.heap s.heap [] := va_S.rf
  refine lv_iload_n hx hb dX4_model_0 rfl (lv_at hl 1 rfl) ?_
  refine lv_if_lt (tgt := 9) hx hb dX4_model_1 (by decide) (fun h1 => ?_) (fun h1 => ?_)
  · skip
    exact tx_throw (D := (dC, dI)) (cl := vwCl) (is := 100) (text := "the variables are 0 and 1") wm_cl_X4_39 wm_in_IllegalArgumentException (by decide) Bundle.six_0 Bundle.six_1 Bundle.six_2 Bundle.six_5 tx_wI tx_cI tx_gI (tx_hI hE) hx hb hl9 hown hts (by decide) hE hP hS (hl.1.trans hml.symm) dX4_model_9 dX4_model_12 dX4_model_13 dX4_model_15 dX4_model_18 htab (Nat.le_of_ble_eq_true rfl) (Nat.le_of_ble_eq_true rfl) (Nat.le_of_ble_eq_true rfl) (Nat.le_of_ble_eq_true rfl) hlocks (Nat.le_refl _) (Nat.le_refl _)
  · skip
    refine lv_iload_n hx hb dX4_model_4 rfl (lv_at hl 1 rfl) ?_
    refine lv_iconst (v := nI 2) hx hb dX4_model_5 (by decide) ?_
    refine lv_icmp_lt (tgt := 19) hx hb dX4_model_6 (by decide) (fun h2 => absurd (xh_c (n := 2) (by omega) h1 (Int32.not_le.mpr h2)) hno) (fun _ => ?_)
    exact tx_throw (D := (dC, dI)) (cl := vwCl) (is := 100) (text := "the variables are 0 and 1") wm_cl_X4_39 wm_in_IllegalArgumentException (by decide) Bundle.six_0 Bundle.six_1 Bundle.six_2 Bundle.six_5 tx_wI tx_cI tx_gI (tx_hI hE) hx hb hl9 hown hts (by decide) hE hP hS (hl.1.trans hml.symm) dX4_model_9 dX4_model_12 dX4_model_13 dX4_model_15 dX4_model_18 htab (Nat.le_of_ble_eq_true rfl) (Nat.le_of_ble_eq_true rfl) (Nat.le_of_ble_eq_true rfl) (Nat.le_of_ble_eq_true rfl) hlocks (Nat.le_refl _) (Nat.le_refl _)
set_option maxHeartbeats 4000000 in
set_option maxRecDepth 100000 in
theorem ctX4_model1 (hl9 : l.stackTraces = false) (sa : Nat → Nat) (sz : Nat) (j : Nat) (hj : j < 2) : vx_Met l yX4_model wsX4_model ({ frames := 6, cells := 1, slots := 6, locals := 100 }) (va_Pc [.ref (hf 0), .int (nI j)] (fun U => U.heap.size = sz ∧ va_P (dC, dI) vwCl (wF cI hf ad sd aF 0 ck aK aA aB aC aP aV aN n aM aS mm lv) U.heap ∧ va_K (dC, dI) vwCl [(cI, .int)] U ∧ va_D (fun _ => True) (wF cI hf ad sd aF 0 ck aK aA aB aC aP aV aN n aM aS mm lv) ∧ tx_E (va_A (wF cI hf ad sd aF 0 ck aK aA aB aC aP aV aN n aM aS mm lv) sz) sa U U.heap)) (va_Qi (fun _ (_ : Unit) => False) (fun _ _ => True) (va_A (wF cI hf ad sd aF 0 ck aK aA aB aC aP aV aN n aM aS mm lv) sz)) (tx_X "java/util/NoSuchElementException" (dC, dI) vwCl (wF cI hf ad sd aF 0 ck aK aA aB aC aP aV aN n aM aS mm lv) (va_A (wF cI hf ad sd aF 0 ck aK aA aB aC aP aV aN n aM aS mm lv) sz)) 1 6 (va_A (wF cI hf ad sd aF 0 ck aK aA aB aC aP aV aN n aM aS mm lv) sz) := by
  refine vx_ofW (cc := cX4_model) (maxL := 2) (ret := (some .int)) (by decide) rfl ?_
  intro p e s m args below meth c s₁ B hml htab hv
  obtain ⟨rfl, hsz, hP, hK, hD0, hE⟩ := hv
  subst hsz
  have hx := B.exec
  have hb := B.bytes
  have hr := B.returns
  have hts := atoms_spec (ws := wsX4_model) B.pre
  have hown : s.vm.findClass RX4 = some m.cls := findClass_of_methodNamed B.named
  have hlocks := B.notSynchronized
  have hl := lv_entry ([.ref (hf 0), .int (nI j)]) (n := 2) (Nat.le_of_ble_eq_true rfl)
  rw [lg_entry_eq]
  generalize (lg_sl ([.ref (hf 0), .int (nI j)]) ++ List.replicate (2 - (lg_sl ([.ref (hf 0), .int (nI j)])).length) Slot.unset).toArray = ls at hl ⊢
  have hl : lv_has ls 2 [(0, .ref (hf 0)), (1, .int (nI j))] := hl
  have hD := hD0.self (sz := s.heap.size)
  generalize hAe : va_A (wF cI hf ad sd aF 0 ck aK aA aB aC aP aV aN n aM aS mm lv) s.heap.size = A9 at hD hE ⊢
  have hA : ∀ q : Nat, s.heap.size ≤ q → A9 q := fun q h => by rw [← hAe]; exact Or.inr h
  have hS : va_S A9 s.heap s.heap [] := va_S.rf
  refine lv_iload_n hx hb dX4_model_0 rfl (lv_at hl 1 rfl) ?_
  refine lv_if_lt (tgt := 9) hx hb dX4_model_1 (by decide) (fun h1 => absurd h1 (nI_nlt (a := j) (b := 0) (by omega) (by omega))) (fun _ => ?_)
  refine lv_iload_n hx hb dX4_model_4 rfl (lv_at hl 1 rfl) ?_
  refine lv_iconst (v := nI 2) hx hb dX4_model_5 (by decide) ?_
  refine lv_icmp_lt (tgt := 19) hx hb dX4_model_6 (by decide) (fun _ => ?_) (fun h2 => absurd ((nI_ltI (a := j) (b := 2) (by omega) (by omega)).mpr hj) h2)
  refine lv_aload_n hx hb dX4_model_19 rfl (lv_at hl 0 rfl) ?_
  refine va_get (D := (dC, dI)) (ci := 2) (v := .int 0) (C := RX4) (T := TX4) (N := 5) hx hb hts (fun w h => List.mem_cons_of_mem _ (wf_X4 w h)) hown hK hP 0 rfl rfl 3 (by decide) (hts _ (List.mem_cons_of_mem _ wm_fl_X4_27)) (fun _ h9 => h9) rfl dX4_model_20 ?_
  refine lv_if_ne (tgt := 36) hx hb dX4_model_23 (by decide) (fun h3 => absurd (by decide) h3) (fun _ => ?_)
  exact tx_throw (D := (dC, dI)) (cl := vwCl) (is := 104) (text := "the latest check found no model") wm_cl_X4_102 wm_in_NoSuchElementException (by decide) tx_d0 tx_d1 tx_d2 tx_d5 tx_wN tx_cN tx_gN (tx_hN hE) hx hb hl9 hown hts (by decide) hE hP hS (hl.1.trans hml.symm) dX4_model_26 dX4_model_29 dX4_model_30 dX4_model_32 dX4_model_35 htab (Nat.le_of_ble_eq_true rfl) (Nat.le_of_ble_eq_true rfl) (Nat.le_of_ble_eq_true rfl) (Nat.le_of_ble_eq_true rfl) hlocks (Nat.le_refl _) (Nat.le_refl _)
set_option maxHeartbeats 4000000 in
set_option maxRecDepth 100000 in
theorem ctX4_model2 (sz : Nat) (j : Nat) (hj : j < 2) : Met l yX4_model wsX4_model ({ frames := 6, cells := 0, slots := 0, locals := 100 }) (va_Pc [.ref (hf 0), .int (nI j)] (fun U => U.heap.size = sz ∧ va_P (dC, dI) vwCl (wF cI hf ad sd aF 1 ck aK aA aB aC aP aV aN n aM aS mm lv) U.heap ∧ va_K (dC, dI) vwCl [(cI, .int)] U ∧ va_D (fun _ => True) (wF cI hf ad sd aF 1 ck aK aA aB aC aP aV aN n aM aS mm lv))) (va_Qi (fun r _ => r = aF j) (fun (u : Unit) t9 => va_P (dC, dI) vwCl (wF cI hf ad sd aF 1 ck aK aA aB aC aP aV aN n aM aS mm lv) t9.heap ∧ va_K (dC, dI) vwCl [(cI, .int)] t9 ∧ va_D (va_A (wF cI hf ad sd aF 1 ck aK aA aB aC aP aV aN n aM aS mm lv) sz) (wF cI hf ad sd aF 1 ck aK aA aB aC aP aV aN n aM aS mm lv)) (va_A (wF cI hf ad sd aF 1 ck aK aA aB aC aP aV aN n aM aS mm lv) sz)) 0 0 (va_A (wF cI hf ad sd aF 1 ck aK aA aB aC aP aV aN n aM aS mm lv) sz) := by
  refine Met.ofW (cc := cX4_model) (maxL := 2) (ret := (some .int)) (by decide) rfl ?_
  intro p e s m args below meth c s₁ B hml hv
  obtain ⟨rfl, hsz, hP, hK, hD0⟩ := hv
  subst hsz
  have hx := B.exec
  have hb := B.bytes
  have hr := B.returns
  have hts := atoms_spec (ws := wsX4_model) B.pre
  have hown : s.vm.findClass RX4 = some m.cls := findClass_of_methodNamed B.named
  have hlocks := B.notSynchronized
  have hl := lv_entry ([.ref (hf 0), .int (nI j)]) (n := 2) (Nat.le_of_ble_eq_true rfl)
  rw [lg_entry_eq]
  generalize (lg_sl ([.ref (hf 0), .int (nI j)]) ++ List.replicate (2 - (lg_sl ([.ref (hf 0), .int (nI j)])).length) Slot.unset).toArray = ls at hl ⊢
  have hl : lv_has ls 2 [(0, .ref (hf 0)), (1, .int (nI j))] := hl
  have hD := hD0.self (sz := s.heap.size)
  generalize hAe : va_A (wF cI hf ad sd aF 1 ck aK aA aB aC aP aV aN n aM aS mm lv) s.heap.size = A9 at hD ⊢
  have hA : ∀ q : Nat, s.heap.size ≤ q → A9 q := fun q h => by rw [← hAe]; exact Or.inr h
  have hS : va_S A9 s.heap s.heap [] := va_S.rf
  refine lv_iload_n hx hb dX4_model_0 rfl (lv_at hl 1 rfl) ?_
  refine lv_if_lt (tgt := 9) hx hb dX4_model_1 (by decide) (fun h1 => absurd h1 (nI_nlt (a := j) (b := 0) (by omega) (by omega))) (fun _ => ?_)
  refine lv_iload_n hx hb dX4_model_4 rfl (lv_at hl 1 rfl) ?_
  refine lv_iconst (v := nI 2) hx hb dX4_model_5 (by decide) ?_
  refine lv_icmp_lt (tgt := 19) hx hb dX4_model_6 (by decide) (fun _ => ?_) (fun h2 => absurd ((nI_ltI (a := j) (b := 2) (by omega) (by omega)).mpr hj) h2)
  refine lv_aload_n hx hb dX4_model_19 rfl (lv_at hl 0 rfl) ?_
  refine va_get (D := (dC, dI)) (ci := 2) (v := .int 1) (C := RX4) (T := TX4) (N := 5) hx hb hts (fun w h => List.mem_cons_of_mem _ (wf_X4 w h)) hown hK hP 0 rfl rfl 3 (by decide) (hts _ (List.mem_cons_of_mem _ wm_fl_X4_27)) (fun _ h9 => h9) rfl dX4_model_20 ?_
  refine lv_if_ne (tgt := 36) hx hb dX4_model_23 (by decide) (fun _ => ?_) (fun h3 => absurd h3 (by decide))
  refine lv_aload_n hx hb dX4_model_36 rfl (lv_at hl 0 rfl) ?_
  refine va_get (D := (dC, dI)) (ci := 2) (v := .ref (hf 1)) (C := RX4) (T := TX4) (N := 5) hx hb hts (fun w h => List.mem_cons_of_mem _ (wf_X4 w h)) hown hK hP 0 rfl rfl 2 (by decide) (hts _ (List.mem_cons_of_mem _ wm_fl_X4_23)) (fun _ h9 => h9) rfl dX4_model_37 ?_
  refine lv_iload_n hx hb dX4_model_40 rfl (lv_at hl 1 rfl) ?_
  refine xr_iald (t := j) (v := aF j) hx hb hK hP 1 0 rfl rfl (by omega) (by omega) (rfl) dX4_model_41 ?_
  exact W.iret (v := aF j) hx hb hr (fun t9 ht9 hW9 => ⟨⟨aF j, (), rfl, rfl, by rw [ht9]; exact hP, va_K.moved hW9.alike hK, hD⟩, hS.F ht9⟩) hS.2.2 dX4_model_42
set_option maxHeartbeats 4000000 in
set_option maxRecDepth 100000 in
theorem ctX4_value0 (hl9 : l.stackTraces = false) (sa : Nat → Nat) (sz : Nat) (hn : n ≤ 12) (z : Int32) (hno : ¬ ∃ j, j < n ∧ z = nI j) : vx_Met l yX4_value wsX4_value ({ frames := 6, cells := 1, slots := 6, locals := 144 }) (va_Pc [.ref (hf 0), .int z] (fun U => U.heap.size = sz ∧ va_P (dC, dI) vwCl (wF cI hf ad sd aF ms ck aK aA aB aC aP aV aN n aM aS mm lv) U.heap ∧ va_K (dC, dI) vwCl [(cI, .int)] U ∧ va_D (fun _ => True) (wF cI hf ad sd aF ms ck aK aA aB aC aP aV aN n aM aS mm lv) ∧ tx_E (va_A (wF cI hf ad sd aF ms ck aK aA aB aC aP aV aN n aM aS mm lv) sz) sa U U.heap)) (va_Qi (fun _ (_ : Unit) => False) (fun _ _ => True) (va_A (wF cI hf ad sd aF ms ck aK aA aB aC aP aV aN n aM aS mm lv) sz)) (tx_X "java/lang/IllegalArgumentException" (dC, dI) vwCl (wF cI hf ad sd aF ms ck aK aA aB aC aP aV aN n aM aS mm lv) (va_A (wF cI hf ad sd aF ms ck aK aA aB aC aP aV aN n aM aS mm lv) sz)) 1 6 (va_A (wF cI hf ad sd aF ms ck aK aA aB aC aP aV aN n aM aS mm lv) sz) := by
  refine vx_ofW (cc := cX4_value) (maxL := 2) (ret := (some .int)) (by decide) rfl ?_
  intro p e s m args below meth c s₁ B hml htab hv
  obtain ⟨rfl, hsz, hP, hK, hD0, hE⟩ := hv
  subst hsz
  have hx := B.exec
  have hb := B.bytes
  have hr := B.returns
  have hts := atoms_spec (ws := wsX4_value) B.pre
  have hown : s.vm.findClass RX4 = some m.cls := findClass_of_methodNamed B.named
  have hlocks := B.notSynchronized
  have hl := lv_entry ([.ref (hf 0), .int z]) (n := 2) (Nat.le_of_ble_eq_true rfl)
  rw [lg_entry_eq]
  generalize (lg_sl ([.ref (hf 0), .int z]) ++ List.replicate (2 - (lg_sl ([.ref (hf 0), .int z])).length) Slot.unset).toArray = ls at hl ⊢
  have hl : lv_has ls 2 [(0, .ref (hf 0)), (1, .int z)] := hl
  have hD := hD0.self (sz := s.heap.size)
  generalize hAe : va_A (wF cI hf ad sd aF ms ck aK aA aB aC aP aV aN n aM aS mm lv) s.heap.size = A9 at hD hE ⊢
  have hA : ∀ q : Nat, s.heap.size ≤ q → A9 q := fun q h => by rw [← hAe]; exact Or.inr h
  have hS : va_S A9 s.heap s.heap [] := va_S.rf
  refine lv_aload_n hx hb dX4_value_0 rfl (lv_at hl 0 rfl) ?_
  refine va_get (D := (dC, dI)) (ci := 2) (v := .ref (ad 0)) (C := RX4) (T := TX4) (N := 5) hx hb hts (fun w h => List.mem_cons_of_mem _ (wf_X4 w h)) hown hK hP 0 rfl rfl 0 (by decide) (hts _ (List.mem_cons_of_mem _ wm_fl_X4_10)) (fun _ h9 => h9) rfl dX4_value_1 ?_
  refine lv_iload_n hx hb dX4_value_4 rfl (lv_at hl 1 rfl) ?_
  refine vp_callSi (W.runV (C := RX3) (b := ad 0) (As := [.int z]) (rest := []) ⟨hx, hb, hml, hown, hts⟩ (ctX3_has l dC dI cI ad aK aA aB aC aP aV aN n hn z) (cwV 1 hts (wA_wsV wm_ml_X4_107 wm_im_X3_has wm_se_X3_has wm_in_X3 wm_cd_X3_has) rfl rfl rfl (by decide +kernel) ⟨Nat.le_of_ble_eq_true rfl, Nat.le_of_ble_eq_true rfl⟩) ⟨fun a U g mk q => by obtain ⟨q0, qP, qK⟩ := q; exact ⟨q0, qP, va_K.moved (u := U) (U := U.calling g mk a) (Vm.Alike.refl U.vm) qK⟩, va_recv (q := (RX3, TX3, 8)) (q0 := 2) hK hP rfl rfl, fun U hU hW => ⟨rfl, by rw [hU]; exact (hP.sub (ws' := wT cI ad aK aA aB aC aP aV aN n) [2, 3, 4, 5, 6, 7, 8, 9] rfl), va_K.moved hW.alike hK⟩⟩ rfl rfl hl.1 rfl (lv_room (Nat.le_of_ble_eq_true rfl)) dX4_value_5 ⟨Nat.zero_le _, Nat.zero_le _⟩) (fun r1 er1 => ?_)
  rcases er1 with ⟨-, hy⟩ | ⟨rfl, -⟩
  · exact absurd hy hno
  refine lv_if_ne (tgt := 21) hx hb dX4_value_8 (by decide) (fun h2 => absurd (by decide) h2) (fun _ => ?_)
  exact tx_throw (D := (dC, dI)) (cl := vwCl) (is := 110) (text := "no term has this number") wm_cl_X4_39 wm_in_IllegalArgumentException (by decide) Bundle.six_0 Bundle.six_1 Bundle.six_2 Bundle.six_5 tx_wI tx_cI tx_gI (tx_hI hE) hx hb hl9 hown hts (by decide) hE hP hS (hl.1.trans hml.symm) dX4_value_11 dX4_value_14 dX4_value_15 dX4_value_17 dX4_value_20 htab (Nat.le_of_ble_eq_true rfl) (Nat.le_of_ble_eq_true rfl) (Nat.le_of_ble_eq_true rfl) (Nat.le_of_ble_eq_true rfl) hlocks (Nat.le_refl _) (Nat.le_refl _)
set_option maxHeartbeats 4000000 in
set_option maxRecDepth 100000 in
theorem ctX4_value1 (hl9 : l.stackTraces = false) (sa : Nat → Nat) (sz : Nat) (hn : n ≤ 12) (t : Nat) (ht : t < n) : vx_Met l yX4_value wsX4_value ({ frames := 6, cells := 1, slots := 6, locals := 144 }) (va_Pc [.ref (hf 0), .int (nI t)] (fun U => U.heap.size = sz ∧ va_P (dC, dI) vwCl (wF cI hf ad sd aF 0 ck aK aA aB aC aP aV aN n aM aS mm lv) U.heap ∧ va_K (dC, dI) vwCl [(cI, .int)] U ∧ va_D (fun _ => True) (wF cI hf ad sd aF 0 ck aK aA aB aC aP aV aN n aM aS mm lv) ∧ tx_E (va_A (wF cI hf ad sd aF 0 ck aK aA aB aC aP aV aN n aM aS mm lv) sz) sa U U.heap)) (va_Qi (fun _ (_ : Unit) => False) (fun _ _ => True) (va_A (wF cI hf ad sd aF 0 ck aK aA aB aC aP aV aN n aM aS mm lv) sz)) (tx_X "java/util/NoSuchElementException" (dC, dI) vwCl (wF cI hf ad sd aF 0 ck aK aA aB aC aP aV aN n aM aS mm lv) (va_A (wF cI hf ad sd aF 0 ck aK aA aB aC aP aV aN n aM aS mm lv) sz)) 1 6 (va_A (wF cI hf ad sd aF 0 ck aK aA aB aC aP aV aN n aM aS mm lv) sz) := by
  refine vx_ofW (cc := cX4_value) (maxL := 2) (ret := (some .int)) (by decide) rfl ?_
  intro p e s m args below meth c s₁ B hml htab hv
  obtain ⟨rfl, hsz, hP, hK, hD0, hE⟩ := hv
  subst hsz
  have hx := B.exec
  have hb := B.bytes
  have hr := B.returns
  have hts := atoms_spec (ws := wsX4_value) B.pre
  have hown : s.vm.findClass RX4 = some m.cls := findClass_of_methodNamed B.named
  have hlocks := B.notSynchronized
  have hl := lv_entry ([.ref (hf 0), .int (nI t)]) (n := 2) (Nat.le_of_ble_eq_true rfl)
  rw [lg_entry_eq]
  generalize (lg_sl ([.ref (hf 0), .int (nI t)]) ++ List.replicate (2 - (lg_sl ([.ref (hf 0), .int (nI t)])).length) Slot.unset).toArray = ls at hl ⊢
  have hl : lv_has ls 2 [(0, .ref (hf 0)), (1, .int (nI t))] := hl
  have hD := hD0.self (sz := s.heap.size)
  generalize hAe : va_A (wF cI hf ad sd aF 0 ck aK aA aB aC aP aV aN n aM aS mm lv) s.heap.size = A9 at hD hE ⊢
  have hA : ∀ q : Nat, s.heap.size ≤ q → A9 q := fun q h => by rw [← hAe]; exact Or.inr h
  have hS : va_S A9 s.heap s.heap [] := va_S.rf
  refine lv_aload_n hx hb dX4_value_0 rfl (lv_at hl 0 rfl) ?_
  refine va_get (D := (dC, dI)) (ci := 2) (v := .ref (ad 0)) (C := RX4) (T := TX4) (N := 5) hx hb hts (fun w h => List.mem_cons_of_mem _ (wf_X4 w h)) hown hK hP 0 rfl rfl 0 (by decide) (hts _ (List.mem_cons_of_mem _ wm_fl_X4_10)) (fun _ h9 => h9) rfl dX4_value_1 ?_
  refine lv_iload_n hx hb dX4_value_4 rfl (lv_at hl 1 rfl) ?_
  refine vp_callSi (W.runV (C := RX3) (b := ad 0) (As := [.int (nI t)]) (rest := []) ⟨hx, hb, hml, hown, hts⟩ (ctX3_has l dC dI cI ad aK aA aB aC aP aV aN n hn (nI t)) (cwV 1 hts (wA_wsV wm_ml_X4_107 wm_im_X3_has wm_se_X3_has wm_in_X3 wm_cd_X3_has) rfl rfl rfl (by decide +kernel) ⟨Nat.le_of_ble_eq_true rfl, Nat.le_of_ble_eq_true rfl⟩) ⟨fun a U g mk q => by obtain ⟨q0, qP, qK⟩ := q; exact ⟨q0, qP, va_K.moved (u := U) (U := U.calling g mk a) (Vm.Alike.refl U.vm) qK⟩, va_recv (q := (RX3, TX3, 8)) (q0 := 2) hK hP rfl rfl, fun U hU hW => ⟨rfl, by rw [hU]; exact (hP.sub (ws' := wT cI ad aK aA aB aC aP aV aN n) [2, 3, 4, 5, 6, 7, 8, 9] rfl), va_K.moved hW.alike hK⟩⟩ rfl rfl hl.1 rfl (lv_room (Nat.le_of_ble_eq_true rfl)) dX4_value_5 ⟨Nat.zero_le _, Nat.zero_le _⟩) (fun r1 er1 => ?_)
  rcases Or.symm er1 with ⟨-, hy⟩ | ⟨rfl, -⟩
  · exact absurd ⟨t, ht, rfl⟩ hy
  refine lv_if_ne (tgt := 21) hx hb dX4_value_8 (by decide) (fun _ => ?_) (fun h2 => absurd h2 (by decide))
  refine lv_aload_n hx hb dX4_value_21 rfl (lv_at hl 0 rfl) ?_
  refine va_get (D := (dC, dI)) (ci := 2) (v := .int 0) (C := RX4) (T := TX4) (N := 5) hx hb hts (fun w h => List.mem_cons_of_mem _ (wf_X4 w h)) hown hK hP 0 rfl rfl 3 (by decide) (hts _ (List.mem_cons_of_mem _ wm_fl_X4_27)) (fun _ h9 => h9) rfl dX4_value_22 ?_
  refine lv_if_ne (tgt := 38) hx hb dX4_value_25 (by decide) (fun h3 => absurd (by decide) h3) (fun _ => ?_)
  exact tx_throw (D := (dC, dI)) (cl := vwCl) (is := 104) (text := "the latest check found no model") wm_cl_X4_102 wm_in_NoSuchElementException (by decide) tx_d0 tx_d1 tx_d2 tx_d5 tx_wN tx_cN tx_gN (tx_hN hE) hx hb hl9 hown hts (by decide) hE hP hS (hl.1.trans hml.symm) dX4_value_28 dX4_value_31 dX4_value_32 dX4_value_34 dX4_value_37 htab (Nat.le_of_ble_eq_true rfl) (Nat.le_of_ble_eq_true rfl) (Nat.le_of_ble_eq_true rfl) (Nat.le_of_ble_eq_true rfl) hlocks (Nat.le_refl _) (Nat.le_refl _)
set_option maxHeartbeats 4000000 in
set_option maxRecDepth 100000 in
theorem ctX4_value2 (sz : Nat) (hn : n ≤ 12) (fk fa fb fc : Nat → Nat) (hk : ∀ t, t < n → aK t = nI (fk t)) (ha : ∀ t, t < n → aA t = nI (fa t)) (hbb : ∀ t, t < n → aB t = nI (fb t)) (hc : ∀ t, t < n → aC t = nI (fc t)) (hT : pv_TI fk fa fb fc n) (t : Nat) (ht : t < n) : Met l yX4_value wsX4_value ({ frames := 6, cells := 0, slots := 0, locals := 144 }) (va_Pc [.ref (hf 0), .int (nI t)] (fun U => U.heap.size = sz ∧ va_P (dC, dI) vwCl (wF cI hf ad sd aF 1 ck aK aA aB aC aP aV aN n aM aS mm lv) U.heap ∧ va_K (dC, dI) vwCl [(cI, .int)] U ∧ va_D (fun _ => True) (wF cI hf ad sd aF 1 ck aK aA aB aC aP aV aN n aM aS mm lv))) (va_Qi (fun r _ => r = (pc_ah fk fa fb fc (aF 0) (aF 1) (aP t) 0 n 0 aN).2 t) (fun (u : Unit) t9 => va_P (dC, dI) vwCl (wF cI hf ad sd aF 1 ck aK aA aB aC aP aV ((pc_ah fk fa fb fc (aF 0) (aF 1) (aP t) 0 n 0 aN).2) n aM aS mm lv) t9.heap ∧ va_K (dC, dI) vwCl [(cI, .int)] t9 ∧ va_D (va_A (wF cI hf ad sd aF 1 ck aK aA aB aC aP aV aN n aM aS mm lv) sz) (wF cI hf ad sd aF 1 ck aK aA aB aC aP aV ((pc_ah fk fa fb fc (aF 0) (aF 1) (aP t) 0 n 0 aN).2) n aM aS mm lv)) (va_A (wF cI hf ad sd aF 1 ck aK aA aB aC aP aV aN n aM aS mm lv) sz)) 0 0 (va_A (wF cI hf ad sd aF 1 ck aK aA aB aC aP aV aN n aM aS mm lv) sz) := by
  refine Met.ofW (cc := cX4_value) (maxL := 2) (ret := (some .int)) (by decide) rfl ?_
  intro p e s m args below meth c s₁ B hml hv
  obtain ⟨rfl, hsz, hP, hK, hD0⟩ := hv
  subst hsz
  have hx := B.exec
  have hb := B.bytes
  have hr := B.returns
  have hts := atoms_spec (ws := wsX4_value) B.pre
  have hown : s.vm.findClass RX4 = some m.cls := findClass_of_methodNamed B.named
  have hlocks := B.notSynchronized
  have hl := lv_entry ([.ref (hf 0), .int (nI t)]) (n := 2) (Nat.le_of_ble_eq_true rfl)
  rw [lg_entry_eq]
  generalize (lg_sl ([.ref (hf 0), .int (nI t)]) ++ List.replicate (2 - (lg_sl ([.ref (hf 0), .int (nI t)])).length) Slot.unset).toArray = ls at hl ⊢
  have hl : lv_has ls 2 [(0, .ref (hf 0)), (1, .int (nI t))] := hl
  have hD := hD0.self (sz := s.heap.size)
  generalize hAe : va_A (wF cI hf ad sd aF 1 ck aK aA aB aC aP aV aN n aM aS mm lv) s.heap.size = A9 at hD ⊢
  have hA : ∀ q : Nat, s.heap.size ≤ q → A9 q := fun q h => by rw [← hAe]; exact Or.inr h
  have hS : va_S A9 s.heap s.heap [] := va_S.rf
  refine lv_aload_n hx hb dX4_value_0 rfl (lv_at hl 0 rfl) ?_
  refine va_get (D := (dC, dI)) (ci := 2) (v := .ref (ad 0)) (C := RX4) (T := TX4) (N := 5) hx hb hts (fun w h => List.mem_cons_of_mem _ (wf_X4 w h)) hown hK hP 0 rfl rfl 0 (by decide) (hts _ (List.mem_cons_of_mem _ wm_fl_X4_10)) (fun _ h9 => h9) rfl dX4_value_1 ?_
  refine lv_iload_n hx hb dX4_value_4 rfl (lv_at hl 1 rfl) ?_
  refine vp_callSi (W.runV (C := RX3) (b := ad 0) (As := [.int (nI t)]) (rest := []) ⟨hx, hb, hml, hown, hts⟩ (ctX3_has l dC dI cI ad aK aA aB aC aP aV aN n hn (nI t)) (cwV 1 hts (wA_wsV wm_ml_X4_107 wm_im_X3_has wm_se_X3_has wm_in_X3 wm_cd_X3_has) rfl rfl rfl (by decide +kernel) ⟨Nat.le_of_ble_eq_true rfl, Nat.le_of_ble_eq_true rfl⟩) ⟨fun a U g mk q => by obtain ⟨q0, qP, qK⟩ := q; exact ⟨q0, qP, va_K.moved (u := U) (U := U.calling g mk a) (Vm.Alike.refl U.vm) qK⟩, va_recv (q := (RX3, TX3, 8)) (q0 := 2) hK hP rfl rfl, fun U hU hW => ⟨rfl, by rw [hU]; exact (hP.sub (ws' := wT cI ad aK aA aB aC aP aV aN n) [2, 3, 4, 5, 6, 7, 8, 9] rfl), va_K.moved hW.alike hK⟩⟩ rfl rfl hl.1 rfl (lv_room (Nat.le_of_ble_eq_true rfl)) dX4_value_5 ⟨Nat.zero_le _, Nat.zero_le _⟩) (fun r1 er1 => ?_)
  rcases Or.symm er1 with ⟨-, hy⟩ | ⟨rfl, -⟩
  · exact absurd ⟨t, ht, rfl⟩ hy
  refine lv_if_ne (tgt := 21) hx hb dX4_value_8 (by decide) (fun _ => ?_) (fun h2 => absurd h2 (by decide))
  refine lv_aload_n hx hb dX4_value_21 rfl (lv_at hl 0 rfl) ?_
  refine va_get (D := (dC, dI)) (ci := 2) (v := .int 1) (C := RX4) (T := TX4) (N := 5) hx hb hts (fun w h => List.mem_cons_of_mem _ (wf_X4 w h)) hown hK hP 0 rfl rfl 3 (by decide) (hts _ (List.mem_cons_of_mem _ wm_fl_X4_27)) (fun _ h9 => h9) rfl dX4_value_22 ?_
  refine lv_if_ne (tgt := 38) hx hb dX4_value_25 (by decide) (fun _ => ?_) (fun h3 => absurd h3 (by decide))
  refine lv_aload_n hx hb dX4_value_38 rfl (lv_at hl 0 rfl) ?_
  refine va_get (D := (dC, dI)) (ci := 2) (v := .ref (ad 0)) (C := RX4) (T := TX4) (N := 5) hx hb hts (fun w h => List.mem_cons_of_mem _ (wf_X4 w h)) hown hK hP 0 rfl rfl 0 (by decide) (hts _ (List.mem_cons_of_mem _ wm_fl_X4_10)) (fun _ h9 => h9) rfl dX4_value_39 ?_
  refine lv_iload_n hx hb dX4_value_42 rfl (lv_at hl 1 rfl) ?_
  refine lv_aload_n hx hb dX4_value_43 rfl (lv_at hl 0 rfl) ?_
  refine va_get (D := (dC, dI)) (ci := 2) (v := .ref (hf 1)) (C := RX4) (T := TX4) (N := 5) hx hb hts (fun w h => List.mem_cons_of_mem _ (wf_X4 w h)) hown hK hP 0 rfl rfl 2 (by decide) (hts _ (List.mem_cons_of_mem _ wm_fl_X4_23)) (fun _ h9 => h9) rfl dX4_value_44 ?_
  refine lv_iconst (v := 0) hx hb dX4_value_47 (by decide) ?_
  refine xr_iald (t := 0) (v := aF 0) hx hb hK hP 1 0 rfl rfl (by omega) (by omega) (rfl) dX4_value_48 ?_
  refine lv_aload_n hx hb dX4_value_49 rfl (lv_at hl 0 rfl) ?_
  refine va_get (D := (dC, dI)) (ci := 2) (v := .ref (hf 1)) (C := RX4) (T := TX4) (N := 5) hx hb hts (fun w h => List.mem_cons_of_mem _ (wf_X4 w h)) hown hK hP 0 rfl rfl 2 (by decide) (hts _ (List.mem_cons_of_mem _ wm_fl_X4_23)) (fun _ h9 => h9) rfl dX4_value_50 ?_
  refine lv_iconst (v := nI 1) hx hb dX4_value_53 (by decide) ?_
  refine xr_iald (t := 1) (v := aF 1) hx hb hK hP 1 0 rfl rfl (by omega) (by omega) (rfl) dX4_value_54 ?_
  have hPc := hP.sub (ws' := (wT cI ad aK aA aB aC aP aV aN n)) [2, 3, 4, 5, 6, 7, 8, 9] rfl
  have hDc := hD.sub (ws' := (wT cI ad aK aA aB aC aP aV aN n)) [2, 3, 4, 5, 6, 7, 8, 9] (by decide) rfl
  have hFc := va_free (wc := (wT cI ad aK aA aB aC aP aV aN n)) hD hS hA [2, 3, 4, 5, 6, 7, 8, 9] rfl
  refine va_calli (va_runV (C := RX3) (b := ad 0) (As := [.int (nI t), .int (aF 0), .int (aF 1)]) (rest := []) ⟨hx, hb, hml, hown, hts⟩ (ctX3_answer l dC dI cI ad aK aA aB aC aP aV aN n hn fk fa fb fc hk ha hbb hc hT s.heap.size t ht (aF 0) (aF 1)) (cwV 3 hts (wA_wsV wm_ml_X4_112 wm_im_X3_answer wm_se_X3_answer wm_in_X3 wm_cd_X3_answer) rfl rfl rfl (by decide +kernel) ⟨Nat.le_of_ble_eq_true rfl, Nat.le_of_ble_eq_true rfl⟩) ⟨fun a U g mk q => by obtain ⟨q0, q1, qP, qK, qD⟩ := q; exact ⟨q0, q1, qP, va_K.moved (u := U) (U := U.calling g mk a) (Vm.Alike.refl U.vm) qK, qD⟩, va_recv (q := (RX3, TX3, 8)) (q0 := 2) hK hP rfl rfl, fun U hU hW => ⟨rfl, by rw [hU], by rw [hU]; exact hPc, va_K.moved hW.alike hK, hDc.weaken (fun _ _ _ _ => trivial)⟩⟩ rfl rfl hl.1 rfl (lv_room (Nat.le_of_ble_eq_true rfl)) dX4_value_55 ⟨Nat.zero_le _, Nat.zero_le _⟩) hS (fun q _ h => hFc q h) hFc (fun r4 u t8 H1 locs ht8 hvm8 er4 hB hz1 hk1 hS => ?_)
  obtain ⟨hP1, hK1, hD1⟩ := hB
  rw [ht8] at hP1
  obtain ⟨hP, hD⟩ := va_join (wr := [(hf 0, .inr (2, [.ref (ad 0), .ref (sd 0), .ref (hf 1), .int 1, .int ck])), (hf 1, .inl (cI, 2, .inl aF)), (sd 0, .inr (0, [.ref (sd 1), .ref (sd 2), .int (nI mm), .int (nI lv)])), (sd 1, .inl (cI, 20, .inl aM)), (sd 2, .inl (cI, 6, .inl aS))]) (w1 := [(ad 0, .inr (1, [.ref (ad 1), .ref (ad 2), .ref (ad 3), .ref (ad 4), .ref (ad 5), .ref (ad 6), .ref (ad 7), .int (nI n)])), (ad 1, .inl (cI, 12, .inl aK)), (ad 2, .inl (cI, 12, .inl aA)), (ad 3, .inl (cI, 12, .inl aB)), (ad 4, .inl (cI, 12, .inl aC)), (ad 5, .inl (cI, 12, .inl aP)), (ad 6, .inl (cI, 2, .inl aV)), (ad 7, .inl (cI, 12, .inl u))]) hP hD [2, 3, 4, 5, 6, 7, 8, 9] [0, 1, 10, 11, 12] rfl rfl (by decide) (by decide) hk1 hFc hP1 hD1
  clear hPc hDc hFc hP1 hK1 hD1 hk1 hz1
  generalize H1 = H at hP hS ⊢
  have hP := hP.sub (ws' := [(hf 0, .inr (2, [.ref (ad 0), .ref (sd 0), .ref (hf 1), .int 1, .int ck])), (hf 1, .inl (cI, 2, .inl aF)), (ad 0, .inr (1, [.ref (ad 1), .ref (ad 2), .ref (ad 3), .ref (ad 4), .ref (ad 5), .ref (ad 6), .ref (ad 7), .int (nI n)])), (ad 1, .inl (cI, 12, .inl aK)), (ad 2, .inl (cI, 12, .inl aA)), (ad 3, .inl (cI, 12, .inl aB)), (ad 4, .inl (cI, 12, .inl aC)), (ad 5, .inl (cI, 12, .inl aP)), (ad 6, .inl (cI, 2, .inl aV)), (ad 7, .inl (cI, 12, .inl u)), (sd 0, .inr (0, [.ref (sd 1), .ref (sd 2), .int (nI mm), .int (nI lv)])), (sd 1, .inl (cI, 20, .inl aM)), (sd 2, .inl (cI, 6, .inl aS))]) [0, 1, 5, 6, 7, 8, 9, 10, 11, 12, 2, 3, 4] rfl
  have hD := hD.sub (ws' := [(hf 0, .inr (2, [.ref (ad 0), .ref (sd 0), .ref (hf 1), .int 1, .int ck])), (hf 1, .inl (cI, 2, .inl aF)), (ad 0, .inr (1, [.ref (ad 1), .ref (ad 2), .ref (ad 3), .ref (ad 4), .ref (ad 5), .ref (ad 6), .ref (ad 7), .int (nI n)])), (ad 1, .inl (cI, 12, .inl aK)), (ad 2, .inl (cI, 12, .inl aA)), (ad 3, .inl (cI, 12, .inl aB)), (ad 4, .inl (cI, 12, .inl aC)), (ad 5, .inl (cI, 12, .inl aP)), (ad 6, .inl (cI, 2, .inl aV)), (ad 7, .inl (cI, 12, .inl u)), (sd 0, .inr (0, [.ref (sd 1), .ref (sd 2), .int (nI mm), .int (nI lv)])), (sd 1, .inl (cI, 20, .inl aM)), (sd 2, .inl (cI, 6, .inl aS))]) [0, 1, 5, 6, 7, 8, 9, 10, 11, 12, 2, 3, 4] (by decide) rfl
  obtain ⟨er4, eu⟩ := er4
  subst eu
  subst er4
  exact W.iret (v := (pc_ah fk fa fb fc (aF 0) (aF 1) (aP t) 0 n 0 aN).2 t) hx hb hr (fun t9 ht9 hW9 => ⟨⟨(pc_ah fk fa fb fc (aF 0) (aF 1) (aP t) 0 n 0 aN).2 t, (), rfl, rfl, by rw [ht9]; exact hP, va_K.moved hW9.alike hK, hD⟩, hS.F ht9⟩) hS.2.2 dX4_value_58
set_option maxHeartbeats 4000000 in
set_option maxRecDepth 100000 in
theorem ctX4_reckon0 (hl9 : l.stackTraces = false) (sa : Nat → Nat) (sz : Nat) (k0 x y : Int32) (hno : ¬ pr_ok k0 x y) : vx_Met l yX4_reckon wsX4_reckon ({ frames := 6, cells := 1, slots := 6, locals := 100 }) (va_Pc [.ref (hf 0), .int k0, .int x, .int y] (fun U => U.heap.size = sz ∧ va_P (dC, dI) vwCl (wF cI hf ad sd aF ms ck aK aA aB aC aP aV aN n aM aS mm lv) U.heap ∧ va_K (dC, dI) vwCl [(cI, .int)] U ∧ va_D (fun _ => True) (wF cI hf ad sd aF ms ck aK aA aB aC aP aV aN n aM aS mm lv) ∧ tx_E (va_A (wF cI hf ad sd aF ms ck aK aA aB aC aP aV aN n aM aS mm lv) sz) sa U U.heap)) (va_Qi (fun _ (_ : Unit) => False) (fun _ _ => True) (va_A (wF cI hf ad sd aF ms ck aK aA aB aC aP aV aN n aM aS mm lv) sz)) (tx_X "java/lang/IllegalArgumentException" (dC, dI) vwCl (wF cI hf ad sd aF ms ck aK aA aB aC aP aV aN n aM aS mm lv) (va_A (wF cI hf ad sd aF ms ck aK aA aB aC aP aV aN n aM aS mm lv) sz)) 1 6 (va_A (wF cI hf ad sd aF ms ck aK aA aB aC aP aV aN n aM aS mm lv) sz) := by
  refine vx_ofW (cc := cX4_reckon) (maxL := 4) (ret := (some .int)) (by decide) rfl ?_
  intro p e s m args below meth c s₁ B hml htab hv
  obtain ⟨rfl, hsz, hP, hK, hD0, hE⟩ := hv
  subst hsz
  have hx := B.exec
  have hb := B.bytes
  have hr := B.returns
  have hts := atoms_spec (ws := wsX4_reckon) B.pre
  have hown : s.vm.findClass RX4 = some m.cls := findClass_of_methodNamed B.named
  have hlocks := B.notSynchronized
  have hl := lv_entry ([.ref (hf 0), .int k0, .int x, .int y]) (n := 4) (Nat.le_of_ble_eq_true rfl)
  rw [lg_entry_eq]
  generalize (lg_sl ([.ref (hf 0), .int k0, .int x, .int y]) ++ List.replicate (4 - (lg_sl ([.ref (hf 0), .int k0, .int x, .int y])).length) Slot.unset).toArray = ls at hl ⊢
  have hl : lv_has ls 4 [(0, .ref (hf 0)), (1, .int k0), (2, .int x), (3, .int y)] := hl
  have hD := hD0.self (sz := s.heap.size)
  generalize hAe : va_A (wF cI hf ad sd aF ms ck aK aA aB aC aP aV aN n aM aS mm lv) s.heap.size = A9 at hD hE ⊢
  have hA : ∀ q : Nat, s.heap.size ≤ q → A9 q := fun q h => by rw [← hAe]; exact Or.inr h
  have hS : va_S A9 s.heap s.heap [] := va_S.rf
  refine lv_iload_n hx hb dX4_reckon_0 rfl (lv_at hl 1 rfl) ?_
  refine vp_callSi (W.runS (As := [.int k0]) (rest := []) ⟨hx, hb, hml, hown, hts⟩ (ctX1_isOperation l k0) (va_cwS 1 hts (wA_wsS wm_ml_X4_116 wm_st_X1_isOperation wm_in_X1 wm_cd_X1_isOperation) rfl rfl rfl (by decide +kernel) ⟨Nat.le_of_ble_eq_true rfl, Nat.le_of_ble_eq_true rfl⟩) ⟨fun a U g mk q => q, fun U hU hW => ⟨rfl, trivial⟩⟩ rfl rfl hl.1 rfl (lv_room (Nat.le_of_ble_eq_true rfl)) dX4_reckon_1 ⟨Nat.zero_le _, Nat.zero_le _⟩) (fun r1 er1 => ?_)
  by_cases hop : ∃ κ, κ < 17 ∧ 2 ≤ κ ∧ κ ≠ 9 ∧ k0 = nI κ
  · rw [pu_iso_y hop] at er1
    subst er1
    refine lv_if_eq (tgt := 21) hx hb dX4_reckon_4 (by decide) (fun h2 => absurd h2 (by decide)) (fun _ => ?_)
    refine lv_iload_n hx hb dX4_reckon_7 rfl (lv_at hl 2 rfl) ?_
    refine vp_callSi (W.runS (As := [.int x]) (rest := []) ⟨hx, hb, hml, hown, hts⟩ (ctX1_isNumber l x) (va_cwS 1 hts (wA_wsS wm_ml_X4_121 wm_st_X1_isNumber wm_in_X1 wm_cd_X1_isNumber) rfl rfl rfl (by decide +kernel) ⟨Nat.le_of_ble_eq_true rfl, Nat.le_of_ble_eq_true rfl⟩) ⟨fun a U g mk q => q, fun U hU hW => ⟨rfl, trivial⟩⟩ rfl rfl hl.1 rfl (lv_room (Nat.le_of_ble_eq_true rfl)) dX4_reckon_8 ⟨Nat.zero_le _, Nat.zero_le _⟩) (fun r3 er3 => ?_)
    by_cases hix : ∃ j, j < 32 ∧ x = nI j
    · rw [pu_isn_e hix] at er3
      subst er3
      refine lv_if_eq (tgt := 21) hx hb dX4_reckon_11 (by decide) (fun h4 => absurd h4 (by decide)) (fun _ => ?_)
      refine lv_iload_n hx hb dX4_reckon_14 rfl (lv_at hl 3 rfl) ?_
      refine vp_callSi (W.runS (As := [.int y]) (rest := []) ⟨hx, hb, hml, hown, hts⟩ (ctX1_isNumber l y) (va_cwS 1 hts (wA_wsS wm_ml_X4_121 wm_st_X1_isNumber wm_in_X1 wm_cd_X1_isNumber) rfl rfl rfl (by decide +kernel) ⟨Nat.le_of_ble_eq_true rfl, Nat.le_of_ble_eq_true rfl⟩) ⟨fun a U g mk q => q, fun U hU hW => ⟨rfl, trivial⟩⟩ rfl rfl hl.1 rfl (lv_room (Nat.le_of_ble_eq_true rfl)) dX4_reckon_15 ⟨Nat.zero_le _, Nat.zero_le _⟩) (fun r5 er5 => ?_)
      by_cases hiy : ∃ j, j < 32 ∧ y = nI j
      · rw [pu_isn_e hiy] at er5
        subst er5
        exact absurd ⟨hop, hix, hiy⟩ hno
      · rw [pu_isn_no hiy] at er5
        subst er5
        refine lv_if_ne (tgt := 31) hx hb dX4_reckon_18 (by decide) (fun h6 => absurd (by decide) h6) (fun _ => ?_)
        exact tx_throw (D := (dC, dI)) (cl := vwCl) (is := 124) (text := "no such operation, or not a number 0 to 31") wm_cl_X4_39 wm_in_IllegalArgumentException (by decide) Bundle.six_0 Bundle.six_1 Bundle.six_2 Bundle.six_5 tx_wI tx_cI tx_gI (tx_hI hE) hx hb hl9 hown hts (by decide) hE hP hS (hl.1.trans hml.symm) dX4_reckon_21 dX4_reckon_24 dX4_reckon_25 dX4_reckon_27 dX4_reckon_30 htab (Nat.le_of_ble_eq_true rfl) (Nat.le_of_ble_eq_true rfl) (Nat.le_of_ble_eq_true rfl) (Nat.le_of_ble_eq_true rfl) hlocks (Nat.le_refl _) (Nat.le_refl _)
    · rw [pu_isn_no hix] at er3
      subst er3
      refine lv_if_eq (tgt := 21) hx hb dX4_reckon_11 (by decide) (fun _ => ?_) (fun h7 => absurd (by decide) h7)
      exact tx_throw (D := (dC, dI)) (cl := vwCl) (is := 124) (text := "no such operation, or not a number 0 to 31") wm_cl_X4_39 wm_in_IllegalArgumentException (by decide) Bundle.six_0 Bundle.six_1 Bundle.six_2 Bundle.six_5 tx_wI tx_cI tx_gI (tx_hI hE) hx hb hl9 hown hts (by decide) hE hP hS (hl.1.trans hml.symm) dX4_reckon_21 dX4_reckon_24 dX4_reckon_25 dX4_reckon_27 dX4_reckon_30 htab (Nat.le_of_ble_eq_true rfl) (Nat.le_of_ble_eq_true rfl) (Nat.le_of_ble_eq_true rfl) (Nat.le_of_ble_eq_true rfl) hlocks (Nat.le_refl _) (Nat.le_refl _)
  · rw [pu_iso_no hop] at er1
    subst er1
    refine lv_if_eq (tgt := 21) hx hb dX4_reckon_4 (by decide) (fun _ => ?_) (fun h8 => absurd (by decide) h8)
    exact tx_throw (D := (dC, dI)) (cl := vwCl) (is := 124) (text := "no such operation, or not a number 0 to 31") wm_cl_X4_39 wm_in_IllegalArgumentException (by decide) Bundle.six_0 Bundle.six_1 Bundle.six_2 Bundle.six_5 tx_wI tx_cI tx_gI (tx_hI hE) hx hb hl9 hown hts (by decide) hE hP hS (hl.1.trans hml.symm) dX4_reckon_21 dX4_reckon_24 dX4_reckon_25 dX4_reckon_27 dX4_reckon_30 htab (Nat.le_of_ble_eq_true rfl) (Nat.le_of_ble_eq_true rfl) (Nat.le_of_ble_eq_true rfl) (Nat.le_of_ble_eq_true rfl) hlocks (Nat.le_refl _) (Nat.le_refl _)
set_option maxHeartbeats 4000000 in
set_option maxRecDepth 100000 in
theorem ctX4_reckon1 (sz : Nat) (k0 x y : Int32) (hok : pr_ok k0 x y) : Met l yX4_reckon wsX4_reckon ({ frames := 6, cells := 0, slots := 0, locals := 100 }) (va_Pc [.ref (hf 0), .int k0, .int x, .int y] (fun U => U.heap.size = sz ∧ va_P (dC, dI) vwCl (wF cI hf ad sd aF ms ck aK aA aB aC aP aV aN n aM aS mm lv) U.heap ∧ va_K (dC, dI) vwCl [(cI, .int)] U ∧ va_D (fun _ => True) (wF cI hf ad sd aF ms ck aK aA aB aC aP aV aN n aM aS mm lv))) (va_Qi (fun r _ => r = pu_op k0 x y) (fun (u : Unit) t9 => va_P (dC, dI) vwCl (wF cI hf ad sd aF ms ck aK aA aB aC aP aV aN n aM aS mm lv) t9.heap ∧ va_K (dC, dI) vwCl [(cI, .int)] t9 ∧ va_D (va_A (wF cI hf ad sd aF ms ck aK aA aB aC aP aV aN n aM aS mm lv) sz) (wF cI hf ad sd aF ms ck aK aA aB aC aP aV aN n aM aS mm lv)) (va_A (wF cI hf ad sd aF ms ck aK aA aB aC aP aV aN n aM aS mm lv) sz)) 0 0 (va_A (wF cI hf ad sd aF ms ck aK aA aB aC aP aV aN n aM aS mm lv) sz) := by
  refine Met.ofW (cc := cX4_reckon) (maxL := 4) (ret := (some .int)) (by decide) rfl ?_
  intro p e s m args below meth c s₁ B hml hv
  obtain ⟨rfl, hsz, hP, hK, hD0⟩ := hv
  subst hsz
  have hx := B.exec
  have hb := B.bytes
  have hr := B.returns
  have hts := atoms_spec (ws := wsX4_reckon) B.pre
  have hown : s.vm.findClass RX4 = some m.cls := findClass_of_methodNamed B.named
  have hlocks := B.notSynchronized
  have hl := lv_entry ([.ref (hf 0), .int k0, .int x, .int y]) (n := 4) (Nat.le_of_ble_eq_true rfl)
  rw [lg_entry_eq]
  generalize (lg_sl ([.ref (hf 0), .int k0, .int x, .int y]) ++ List.replicate (4 - (lg_sl ([.ref (hf 0), .int k0, .int x, .int y])).length) Slot.unset).toArray = ls at hl ⊢
  have hl : lv_has ls 4 [(0, .ref (hf 0)), (1, .int k0), (2, .int x), (3, .int y)] := hl
  have hD := hD0.self (sz := s.heap.size)
  generalize hAe : va_A (wF cI hf ad sd aF ms ck aK aA aB aC aP aV aN n aM aS mm lv) s.heap.size = A9 at hD ⊢
  have hA : ∀ q : Nat, s.heap.size ≤ q → A9 q := fun q h => by rw [← hAe]; exact Or.inr h
  have hS : va_S A9 s.heap s.heap [] := va_S.rf
  refine lv_iload_n hx hb dX4_reckon_0 rfl (lv_at hl 1 rfl) ?_
  refine vp_callSi (W.runS (As := [.int k0]) (rest := []) ⟨hx, hb, hml, hown, hts⟩ (ctX1_isOperation l k0) (va_cwS 1 hts (wA_wsS wm_ml_X4_116 wm_st_X1_isOperation wm_in_X1 wm_cd_X1_isOperation) rfl rfl rfl (by decide +kernel) ⟨Nat.le_of_ble_eq_true rfl, Nat.le_of_ble_eq_true rfl⟩) ⟨fun a U g mk q => q, fun U hU hW => ⟨rfl, trivial⟩⟩ rfl rfl hl.1 rfl (lv_room (Nat.le_of_ble_eq_true rfl)) dX4_reckon_1 ⟨Nat.zero_le _, Nat.zero_le _⟩) (fun r1 er1 => ?_)
  rw [pu_iso_y hok.1] at er1
  subst er1
  refine lv_if_eq (tgt := 21) hx hb dX4_reckon_4 (by decide) (fun h2 => absurd h2 (by decide)) (fun _ => ?_)
  refine lv_iload_n hx hb dX4_reckon_7 rfl (lv_at hl 2 rfl) ?_
  refine vp_callSi (W.runS (As := [.int x]) (rest := []) ⟨hx, hb, hml, hown, hts⟩ (ctX1_isNumber l x) (va_cwS 1 hts (wA_wsS wm_ml_X4_121 wm_st_X1_isNumber wm_in_X1 wm_cd_X1_isNumber) rfl rfl rfl (by decide +kernel) ⟨Nat.le_of_ble_eq_true rfl, Nat.le_of_ble_eq_true rfl⟩) ⟨fun a U g mk q => q, fun U hU hW => ⟨rfl, trivial⟩⟩ rfl rfl hl.1 rfl (lv_room (Nat.le_of_ble_eq_true rfl)) dX4_reckon_8 ⟨Nat.zero_le _, Nat.zero_le _⟩) (fun r3 er3 => ?_)
  rw [pu_isn_e hok.2.1] at er3
  subst er3
  refine lv_if_eq (tgt := 21) hx hb dX4_reckon_11 (by decide) (fun h4 => absurd h4 (by decide)) (fun _ => ?_)
  refine lv_iload_n hx hb dX4_reckon_14 rfl (lv_at hl 3 rfl) ?_
  refine vp_callSi (W.runS (As := [.int y]) (rest := []) ⟨hx, hb, hml, hown, hts⟩ (ctX1_isNumber l y) (va_cwS 1 hts (wA_wsS wm_ml_X4_121 wm_st_X1_isNumber wm_in_X1 wm_cd_X1_isNumber) rfl rfl rfl (by decide +kernel) ⟨Nat.le_of_ble_eq_true rfl, Nat.le_of_ble_eq_true rfl⟩) ⟨fun a U g mk q => q, fun U hU hW => ⟨rfl, trivial⟩⟩ rfl rfl hl.1 rfl (lv_room (Nat.le_of_ble_eq_true rfl)) dX4_reckon_15 ⟨Nat.zero_le _, Nat.zero_le _⟩) (fun r5 er5 => ?_)
  rw [pu_isn_e hok.2.2] at er5
  subst er5
  refine lv_if_ne (tgt := 31) hx hb dX4_reckon_18 (by decide) (fun _ => ?_) (fun h6 => absurd h6 (by decide))
  refine lv_iload_n hx hb dX4_reckon_31 rfl (lv_at hl 1 rfl) ?_
  refine lv_iload_n hx hb dX4_reckon_32 rfl (lv_at hl 2 rfl) ?_
  refine lv_iload_n hx hb dX4_reckon_33 rfl (lv_at hl 3 rfl) ?_
  refine vp_callSi (W.runS (As := [.int k0, .int x, .int y]) (rest := []) ⟨hx, hb, hml, hown, hts⟩ (ctX1_operate l k0 x y) (va_cwS 3 hts (wA_wsS wm_ml_X4_126 wm_st_X1_operate wm_in_X1 wm_cd_X1_operate) rfl rfl rfl (by decide +kernel) ⟨Nat.le_of_ble_eq_true rfl, Nat.le_of_ble_eq_true rfl⟩) ⟨fun a U g mk q => q, fun U hU hW => ⟨rfl, trivial⟩⟩ rfl rfl hl.1 rfl (lv_room (Nat.le_of_ble_eq_true rfl)) dX4_reckon_34 ⟨Nat.zero_le _, Nat.zero_le _⟩) (fun r7 er7 => ?_)
  subst er7
  exact W.iret (v := pu_op k0 x y) hx hb hr (fun t9 ht9 hW9 => ⟨⟨pu_op k0 x y, (), rfl, rfl, by rw [ht9]; exact hP, va_K.moved hW9.alike hK, hD⟩, hS.F ht9⟩) hS.2.2 dX4_reckon_37
end FS3
