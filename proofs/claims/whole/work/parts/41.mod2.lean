def pr_ok (k x y : Int32) : Prop := (∃ κ, κ < 17 ∧ 2 ≤ κ ∧ κ ≠ 9 ∧ k = nI κ) ∧ (∃ i, i < 32 ∧ x = nI i) ∧ ∃ j, j < 32 ∧ y = nI j
theorem pr_lt2 {k : Int32} (h : k < 2) : ¬ ∃ κ, κ < 17 ∧ 2 ≤ κ ∧ κ ≠ 9 ∧ k = nI κ := by
  rintro ⟨κ, h1, h2, -, rfl⟩
  exact nI_nlt (a := κ) (b := 2) h2 (by omega) h
theorem pr_gt16 {k : Int32} (h : 16 < k) : ¬ ∃ κ, κ < 17 ∧ 2 ≤ κ ∧ κ ≠ 9 ∧ k = nI κ := by
  rintro ⟨κ, h1, h2, -, rfl⟩
  exact nI_nlt (a := 16) (b := κ) (by omega) (by omega) h
theorem pr_eq9 {k : Int32} (h : k = 9) : ¬ ∃ κ, κ < 17 ∧ 2 ≤ κ ∧ κ ≠ 9 ∧ k = nI κ := by
  rintro ⟨κ, h1, h2, h3, e⟩
  exact h3 (xh_inj (b := 9) (by omega) (by omega) (e.symm.trans h))
theorem pr_yes {k : Int32} (h1 : ¬ k < 2) (h2 : ¬ 16 < k) (h3 : ¬ k = 9) : ∃ κ, κ < 17 ∧ 2 ≤ κ ∧ κ ≠ 9 ∧ k = nI κ := by
  have h0 : ¬ k < 0 := fun z => h1 (Int32.lt_trans z (by decide))
  obtain ⟨κ, hκ, rfl⟩ := xh_c (x := k) (n := 17) (by omega) h0 (fun z => h2 (by
    have z2 : (17 : Int32) ≤ k := z
    rw [Int32.lt_iff_toInt_lt]
    have := Int32.le_iff_toInt_le.mp z2
    have e1 : (17 : Int32).toInt = 17 := by decide
    have e2 : (16 : Int32).toInt = 16 := by decide
    omega))
  refine ⟨κ, hκ, ?_, fun e => h3 (by rw [e]; rfl), rfl⟩
  exact Nat.le_of_not_lt fun z => h1 (nI_lt (a := κ) (b := 2) z (by omega))
section MD2
variable (l : Launch) (dC : Nat → ClassId) (dI : Nat → Nat → Nat) (cI : ClassId) (ad : Nat → Nat) (aK aA aB aC aM aS aF aN : Nat → Int32) (th ck fo : Int32) (n mm lv : Nat)
set_option maxHeartbeats 4000000 in
set_option maxRecDepth 100000 in
theorem ctX5_claim (sz : Nat) (hn : n ≤ 12) (hmm : mm ≤ 20) (fk : Nat → Nat) (hk : ∀ t, t < n → aK t = nI (fk t)) (hk2 : ∀ t, t < n → fk t < 20) (x : Int32) : Met l yX5_claim wsX5_claim ({ frames := 2, cells := 0, slots := 0, locals := 42 }) (va_Pc [.ref (ad 0), .int x] (fun U => U.heap.size = sz ∧ va_P (dC, dI) vwCl (wM cI ad aK aA aB aC aM aS aF aN th ck fo n mm lv) U.heap ∧ va_K (dC, dI) vwCl [(cI, .int)] U ∧ va_D (fun _ => True) (wM cI ad aK aA aB aC aM aS aF aN th ck fo n mm lv))) (va_Qi (fun r u => (¬ (∃ j, j < n ∧ x = nI j ∧ 10 ≤ fk j) ∧ r = 0 ∧ u = (1, aM, mm)) ∨ ((∃ j, j < n ∧ x = nI j ∧ 10 ≤ fk j) ∧ mm = 20 ∧ r = 0 ∧ u = (2, aM, mm)) ∨ ((∃ j, j < n ∧ x = nI j ∧ 10 ≤ fk j) ∧ mm < 20 ∧ r = nI (mm + 1) ∧ u = (0, upd aM mm x, mm + 1))) (fun (u : Int32 × (Nat → Int32) × Nat) t9 => va_P (dC, dI) vwCl (wM cI ad aK aA aB aC (u.2.1) aS aF aN (u.1) ck fo n (u.2.2) lv) t9.heap ∧ va_K (dC, dI) vwCl [(cI, .int)] t9 ∧ va_D (va_A (wM cI ad aK aA aB aC aM aS aF aN th ck fo n mm lv) sz) (wM cI ad aK aA aB aC (u.2.1) aS aF aN (u.1) ck fo n (u.2.2) lv)) (va_A (wM cI ad aK aA aB aC aM aS aF aN th ck fo n mm lv) sz)) 0 0 (va_A (wM cI ad aK aA aB aC aM aS aF aN th ck fo n mm lv) sz) := by
  refine Met.ofW (cc := cX5_claim) (maxL := 2) (ret := (some .int)) (by decide) rfl ?_
  intro p e s m args below meth c s₁ B hml hv
  obtain ⟨rfl, hsz, hP, hK, hD0⟩ := hv
  subst hsz
  have hx := B.exec
  have hb := B.bytes
  have hr := B.returns
  have hts := atoms_spec (ws := wsX5_claim) B.pre
  have hown : s.vm.findClass RX5 = some m.cls := findClass_of_methodNamed B.named
  have hlocks := B.notSynchronized
  have hl := lv_entry ([.ref (ad 0), .int x]) (n := 2) (Nat.le_of_ble_eq_true rfl)
  rw [lg_entry_eq]
  generalize (lg_sl ([.ref (ad 0), .int x]) ++ List.replicate (2 - (lg_sl ([.ref (ad 0), .int x])).length) Slot.unset).toArray = ls at hl ⊢
  have hl : lv_has ls 2 [(0, .ref (ad 0)), (1, .int x)] := hl
  have hD := hD0.self (sz := s.heap.size)
  generalize hAe : va_A (wM cI ad aK aA aB aC aM aS aF aN th ck fo n mm lv) s.heap.size = A9 at hD ⊢
  have hA : ∀ q : Nat, s.heap.size ≤ q → A9 q := fun q h => by rw [← hAe]; exact Or.inr h
  have hS : va_S A9 s.heap s.heap [] := va_S.rf
  refine lv_aload_n hx hb dX5_claim_0 rfl (lv_at hl 0 rfl) ?_
  refine lv_aload_n hx hb dX5_claim_1 rfl (lv_at hl 0 rfl) ?_
  refine lv_iload_n hx hb dX5_claim_2 rfl (lv_at hl 1 rfl) ?_
  refine vp_callSi (W.runV (C := RX5) (b := ad 0) (As := [.int x]) (rest := [.ref (ad 0)]) ⟨hx, hb, hml, hown, hts⟩ (ctX5_isTruth l dC dI cI ad aK aA aB aC aM aS aF aN th ck fo n mm lv hn fk hk hk2 x) (cwV 1 hts (wA_wsV wm_ml_X5_82 wm_im_X5_isTruth wm_se_X5_isTruth wm_in_X5 wm_cd_X5_isTruth) rfl rfl rfl (by decide +kernel) ⟨Nat.le_of_ble_eq_true rfl, Nat.le_of_ble_eq_true rfl⟩) ⟨fun a U g mk q => by obtain ⟨q0, qP, qK⟩ := q; exact ⟨q0, qP, va_K.moved (u := U) (U := U.calling g mk a) (Vm.Alike.refl U.vm) qK⟩, va_recv (q := (RX5, TX5, 14)) (q0 := 0) hK hP rfl rfl, fun U hU hW => ⟨rfl, by rw [hU]; exact hP, va_K.moved hW.alike hK⟩⟩ rfl rfl hl.1 rfl (lv_room (Nat.le_of_ble_eq_true rfl)) dX5_claim_3 ⟨Nat.zero_le _, Nat.zero_le _⟩) (fun r1 er1 => ?_)
  rcases er1 with ⟨rfl, htr⟩ | ⟨rfl, htr⟩
  · skip
    refine lv_if_ne (tgt := 13) hx hb dX5_claim_6 (by decide) (fun _ => ?_) (fun h2 => absurd h2 (by decide))
    refine lv_aload_n hx hb dX5_claim_13 rfl (lv_at hl 0 rfl) ?_
    refine va_get (D := (dC, dI)) (ci := 3) (v := .int (nI mm)) (C := RX5) (T := TX5) (N := 14) hx hb hts (fun w h => List.mem_cons_of_mem _ (wf_X5 w h)) hown hK hP 0 rfl rfl 6 (by decide) (hts _ (List.mem_cons_of_mem _ wm_fl_X5_99)) (fun _ h9 => h9) rfl dX5_claim_14 ?_
    refine lv_bipush (v := nI 20) hx hb dX5_claim_17 (by decide) ?_
    refine lv_icmp_ne (tgt := 26) hx hb dX5_claim_19 (by decide) (fun h3 => ?_) (fun h3 => ?_)
    · skip
      have h3 : ¬ mm = 20 := fun z => h3 ((nI_eq (a := mm) (b := 20) (by omega) (by omega)).mpr z)
      refine lv_iconst (v := 0) hx hb dX5_claim_26 (by decide) ?_
      refine va_put (D := (dC, dI)) (ci := 3) (v := .int 0) (ty := .int) (C := RX5) (T := TX5) (N := 14) hx hb hts (fun w h => List.mem_cons_of_mem _ (wf_X5 w h)) tyX5 tyX5_ok nmX5 hown hK hP hD hS 0 rfl rfl 0 (by decide) (hts _ (List.mem_cons_of_mem _ wm_fl_X5_34)) (fun _ h9 => h9) rfl (by decide +kernel) rfl rfl (Nat.le_of_ble_eq_true rfl) dX5_claim_27 (fun H locs hP hD hS => ?_)
      have hP : va_P (dC, dI) vwCl [(ad 0, .inr (3, [.int 0, .int (nI n), .ref (ad 1), .ref (ad 2), .ref (ad 3), .ref (ad 4), .int (nI mm), .ref (ad 5), .int (nI lv), .ref (ad 6), .int ck, .int fo, .ref (ad 7), .ref (ad 8)])), (ad 1, .inl (cI, 12, .inl aK)), (ad 2, .inl (cI, 12, .inl aA)), (ad 3, .inl (cI, 12, .inl aB)), (ad 4, .inl (cI, 12, .inl aC)), (ad 5, .inl (cI, 20, .inl aM)), (ad 6, .inl (cI, 6, .inl aS)), (ad 7, .inl (cI, 2, .inl aF)), (ad 8, .inl (cI, 12, .inl aN))] H := hP
      have hD : va_D A9 [(ad 0, .inr (3, [.int 0, .int (nI n), .ref (ad 1), .ref (ad 2), .ref (ad 3), .ref (ad 4), .int (nI mm), .ref (ad 5), .int (nI lv), .ref (ad 6), .int ck, .int fo, .ref (ad 7), .ref (ad 8)])), (ad 1, .inl (cI, 12, .inl aK)), (ad 2, .inl (cI, 12, .inl aA)), (ad 3, .inl (cI, 12, .inl aB)), (ad 4, .inl (cI, 12, .inl aC)), (ad 5, .inl (cI, 20, .inl aM)), (ad 6, .inl (cI, 6, .inl aS)), (ad 7, .inl (cI, 2, .inl aF)), (ad 8, .inl (cI, 12, .inl aN))] := hD
      refine lv_aload_n hx hb dX5_claim_30 rfl (lv_at hl 0 rfl) ?_
      refine va_get (D := (dC, dI)) (ci := 3) (v := .int 0) (C := RX5) (T := TX5) (N := 14) hx hb hts (fun w h => List.mem_cons_of_mem _ (wf_X5 w h)) hown hK hP 0 rfl rfl 0 (by decide) (hts _ (List.mem_cons_of_mem _ wm_fl_X5_34)) (fun _ h9 => h9) rfl dX5_claim_31 ?_
      refine lv_if_le (tgt := 39) hx hb dX5_claim_34 (by decide) (fun _ => ?_) (fun h4 => absurd (by decide) h4)
      refine lv_aload_n hx hb dX5_claim_39 rfl (lv_at hl 0 rfl) ?_
      refine va_get (D := (dC, dI)) (ci := 3) (v := .ref (ad 5)) (C := RX5) (T := TX5) (N := 14) hx hb hts (fun w h => List.mem_cons_of_mem _ (wf_X5 w h)) hown hK hP 0 rfl rfl 7 (by decide) (hts _ (List.mem_cons_of_mem _ wm_fl_X5_22)) (fun _ h9 => h9) rfl dX5_claim_40 ?_
      refine lv_aload_n hx hb dX5_claim_43 rfl (lv_at hl 0 rfl) ?_
      refine va_get (D := (dC, dI)) (ci := 3) (v := .int (nI mm)) (C := RX5) (T := TX5) (N := 14) hx hb hts (fun w h => List.mem_cons_of_mem _ (wf_X5 w h)) hown hK hP 0 rfl rfl 6 (by decide) (hts _ (List.mem_cons_of_mem _ wm_fl_X5_99)) (fun _ h9 => h9) rfl dX5_claim_44 ?_
      refine lv_iload_n hx hb dX5_claim_47 rfl (lv_at hl 1 rfl) ?_
      refine xr_iast (t := mm) (x := x) hx hb hK hP hD hS 5 0 rfl rfl (by omega) (by omega) dX5_claim_48 (fun H locs hP hD hS => ?_)
      have hP : va_P (dC, dI) vwCl [(ad 0, .inr (3, [.int 0, .int (nI n), .ref (ad 1), .ref (ad 2), .ref (ad 3), .ref (ad 4), .int (nI mm), .ref (ad 5), .int (nI lv), .ref (ad 6), .int ck, .int fo, .ref (ad 7), .ref (ad 8)])), (ad 1, .inl (cI, 12, .inl aK)), (ad 2, .inl (cI, 12, .inl aA)), (ad 3, .inl (cI, 12, .inl aB)), (ad 4, .inl (cI, 12, .inl aC)), (ad 5, .inl (cI, 20, .inl (upd aM mm x))), (ad 6, .inl (cI, 6, .inl aS)), (ad 7, .inl (cI, 2, .inl aF)), (ad 8, .inl (cI, 12, .inl aN))] H := hP
      have hD : va_D A9 [(ad 0, .inr (3, [.int 0, .int (nI n), .ref (ad 1), .ref (ad 2), .ref (ad 3), .ref (ad 4), .int (nI mm), .ref (ad 5), .int (nI lv), .ref (ad 6), .int ck, .int fo, .ref (ad 7), .ref (ad 8)])), (ad 1, .inl (cI, 12, .inl aK)), (ad 2, .inl (cI, 12, .inl aA)), (ad 3, .inl (cI, 12, .inl aB)), (ad 4, .inl (cI, 12, .inl aC)), (ad 5, .inl (cI, 20, .inl (upd aM mm x))), (ad 6, .inl (cI, 6, .inl aS)), (ad 7, .inl (cI, 2, .inl aF)), (ad 8, .inl (cI, 12, .inl aN))] := hD
      refine lv_aload_n hx hb dX5_claim_49 rfl (lv_at hl 0 rfl) ?_
      refine lv_dup hx hb dX5_claim_50 rfl ?_
      refine va_get (D := (dC, dI)) (ci := 3) (v := .int (nI mm)) (C := RX5) (T := TX5) (N := 14) hx hb hts (fun w h => List.mem_cons_of_mem _ (wf_X5 w h)) hown hK hP 0 rfl rfl 6 (by decide) (hts _ (List.mem_cons_of_mem _ wm_fl_X5_99)) (fun _ h9 => h9) rfl dX5_claim_51 ?_
      refine lv_iconst (v := 1) hx hb dX5_claim_54 (by decide) ?_
      refine lv_iadd hx hb dX5_claim_55 ?_
      refine lv_topi (fun y9 e9 => ?_)
      rw [nI_1] at e9
      subst e9
      refine va_put (D := (dC, dI)) (ci := 3) (v := .int (nI (mm + 1))) (ty := .int) (C := RX5) (T := TX5) (N := 14) hx hb hts (fun w h => List.mem_cons_of_mem _ (wf_X5 w h)) tyX5 tyX5_ok nmX5 hown hK hP hD hS 0 rfl rfl 6 (by decide) (hts _ (List.mem_cons_of_mem _ wm_fl_X5_99)) (fun _ h9 => h9) rfl (by decide +kernel) rfl rfl (Nat.le_of_ble_eq_true rfl) dX5_claim_56 (fun H locs hP hD hS => ?_)
      have hP : va_P (dC, dI) vwCl [(ad 0, .inr (3, [.int 0, .int (nI n), .ref (ad 1), .ref (ad 2), .ref (ad 3), .ref (ad 4), .int (nI (mm + 1)), .ref (ad 5), .int (nI lv), .ref (ad 6), .int ck, .int fo, .ref (ad 7), .ref (ad 8)])), (ad 1, .inl (cI, 12, .inl aK)), (ad 2, .inl (cI, 12, .inl aA)), (ad 3, .inl (cI, 12, .inl aB)), (ad 4, .inl (cI, 12, .inl aC)), (ad 5, .inl (cI, 20, .inl (upd aM mm x))), (ad 6, .inl (cI, 6, .inl aS)), (ad 7, .inl (cI, 2, .inl aF)), (ad 8, .inl (cI, 12, .inl aN))] H := hP
      have hD : va_D A9 [(ad 0, .inr (3, [.int 0, .int (nI n), .ref (ad 1), .ref (ad 2), .ref (ad 3), .ref (ad 4), .int (nI (mm + 1)), .ref (ad 5), .int (nI lv), .ref (ad 6), .int ck, .int fo, .ref (ad 7), .ref (ad 8)])), (ad 1, .inl (cI, 12, .inl aK)), (ad 2, .inl (cI, 12, .inl aA)), (ad 3, .inl (cI, 12, .inl aB)), (ad 4, .inl (cI, 12, .inl aC)), (ad 5, .inl (cI, 20, .inl (upd aM mm x))), (ad 6, .inl (cI, 6, .inl aS)), (ad 7, .inl (cI, 2, .inl aF)), (ad 8, .inl (cI, 12, .inl aN))] := hD
      refine lv_aload_n hx hb dX5_claim_59 rfl (lv_at hl 0 rfl) ?_
      refine va_get (D := (dC, dI)) (ci := 3) (v := .int (nI (mm + 1))) (C := RX5) (T := TX5) (N := 14) hx hb hts (fun w h => List.mem_cons_of_mem _ (wf_X5 w h)) hown hK hP 0 rfl rfl 6 (by decide) (hts _ (List.mem_cons_of_mem _ wm_fl_X5_99)) (fun _ h9 => h9) rfl dX5_claim_60 ?_
      exact W.iret (v := nI (mm + 1)) hx hb hr (fun t9 ht9 hW9 => ⟨⟨nI (mm + 1), (0, upd aM mm x, mm + 1), rfl, Or.inr (Or.inr ⟨htr, by omega, rfl, rfl⟩), by rw [ht9]; exact hP, va_K.moved hW9.alike hK, hD⟩, hS.F ht9⟩) hS.2.2 dX5_claim_63
    · skip
      have h3 : mm = 20 := (nI_eq (a := mm) (b := 20) (by omega) (by omega)).mp h3
      refine lv_iconst (v := 2) hx hb dX5_claim_22 (by decide) ?_
      refine lv_goto (tgt := 27) hx hb dX5_claim_23 (by decide) ?_
      refine va_put (D := (dC, dI)) (ci := 3) (v := .int 2) (ty := .int) (C := RX5) (T := TX5) (N := 14) hx hb hts (fun w h => List.mem_cons_of_mem _ (wf_X5 w h)) tyX5 tyX5_ok nmX5 hown hK hP hD hS 0 rfl rfl 0 (by decide) (hts _ (List.mem_cons_of_mem _ wm_fl_X5_34)) (fun _ h9 => h9) rfl (by decide +kernel) rfl rfl (Nat.le_of_ble_eq_true rfl) dX5_claim_27 (fun H locs hP hD hS => ?_)
      have hP : va_P (dC, dI) vwCl [(ad 0, .inr (3, [.int 2, .int (nI n), .ref (ad 1), .ref (ad 2), .ref (ad 3), .ref (ad 4), .int (nI mm), .ref (ad 5), .int (nI lv), .ref (ad 6), .int ck, .int fo, .ref (ad 7), .ref (ad 8)])), (ad 1, .inl (cI, 12, .inl aK)), (ad 2, .inl (cI, 12, .inl aA)), (ad 3, .inl (cI, 12, .inl aB)), (ad 4, .inl (cI, 12, .inl aC)), (ad 5, .inl (cI, 20, .inl aM)), (ad 6, .inl (cI, 6, .inl aS)), (ad 7, .inl (cI, 2, .inl aF)), (ad 8, .inl (cI, 12, .inl aN))] H := hP
      have hD : va_D A9 [(ad 0, .inr (3, [.int 2, .int (nI n), .ref (ad 1), .ref (ad 2), .ref (ad 3), .ref (ad 4), .int (nI mm), .ref (ad 5), .int (nI lv), .ref (ad 6), .int ck, .int fo, .ref (ad 7), .ref (ad 8)])), (ad 1, .inl (cI, 12, .inl aK)), (ad 2, .inl (cI, 12, .inl aA)), (ad 3, .inl (cI, 12, .inl aB)), (ad 4, .inl (cI, 12, .inl aC)), (ad 5, .inl (cI, 20, .inl aM)), (ad 6, .inl (cI, 6, .inl aS)), (ad 7, .inl (cI, 2, .inl aF)), (ad 8, .inl (cI, 12, .inl aN))] := hD
      refine lv_aload_n hx hb dX5_claim_30 rfl (lv_at hl 0 rfl) ?_
      refine va_get (D := (dC, dI)) (ci := 3) (v := .int 2) (C := RX5) (T := TX5) (N := 14) hx hb hts (fun w h => List.mem_cons_of_mem _ (wf_X5 w h)) hown hK hP 0 rfl rfl 0 (by decide) (hts _ (List.mem_cons_of_mem _ wm_fl_X5_34)) (fun _ h9 => h9) rfl dX5_claim_31 ?_
      refine lv_if_le (tgt := 39) hx hb dX5_claim_34 (by decide) (fun h5 => absurd h5 (by decide)) (fun _ => ?_)
      refine lv_iconst (v := 0) hx hb dX5_claim_37 (by decide) ?_
      exact W.iret (v := 0) hx hb hr (fun t9 ht9 hW9 => ⟨⟨0, (2, aM, mm), rfl, Or.inr (Or.inl ⟨htr, h3, rfl, rfl⟩), by rw [ht9]; exact hP, va_K.moved hW9.alike hK, hD⟩, hS.F ht9⟩) hS.2.2 dX5_claim_38
  · skip
    refine lv_if_ne (tgt := 13) hx hb dX5_claim_6 (by decide) (fun h6 => absurd (by decide) h6) (fun _ => ?_)
    refine lv_iconst (v := 1) hx hb dX5_claim_9 (by decide) ?_
    refine lv_goto (tgt := 27) hx hb dX5_claim_10 (by decide) ?_
    refine va_put (D := (dC, dI)) (ci := 3) (v := .int 1) (ty := .int) (C := RX5) (T := TX5) (N := 14) hx hb hts (fun w h => List.mem_cons_of_mem _ (wf_X5 w h)) tyX5 tyX5_ok nmX5 hown hK hP hD hS 0 rfl rfl 0 (by decide) (hts _ (List.mem_cons_of_mem _ wm_fl_X5_34)) (fun _ h9 => h9) rfl (by decide +kernel) rfl rfl (Nat.le_of_ble_eq_true rfl) dX5_claim_27 (fun H locs hP hD hS => ?_)
    have hP : va_P (dC, dI) vwCl [(ad 0, .inr (3, [.int 1, .int (nI n), .ref (ad 1), .ref (ad 2), .ref (ad 3), .ref (ad 4), .int (nI mm), .ref (ad 5), .int (nI lv), .ref (ad 6), .int ck, .int fo, .ref (ad 7), .ref (ad 8)])), (ad 1, .inl (cI, 12, .inl aK)), (ad 2, .inl (cI, 12, .inl aA)), (ad 3, .inl (cI, 12, .inl aB)), (ad 4, .inl (cI, 12, .inl aC)), (ad 5, .inl (cI, 20, .inl aM)), (ad 6, .inl (cI, 6, .inl aS)), (ad 7, .inl (cI, 2, .inl aF)), (ad 8, .inl (cI, 12, .inl aN))] H := hP
    have hD : va_D A9 [(ad 0, .inr (3, [.int 1, .int (nI n), .ref (ad 1), .ref (ad 2), .ref (ad 3), .ref (ad 4), .int (nI mm), .ref (ad 5), .int (nI lv), .ref (ad 6), .int ck, .int fo, .ref (ad 7), .ref (ad 8)])), (ad 1, .inl (cI, 12, .inl aK)), (ad 2, .inl (cI, 12, .inl aA)), (ad 3, .inl (cI, 12, .inl aB)), (ad 4, .inl (cI, 12, .inl aC)), (ad 5, .inl (cI, 20, .inl aM)), (ad 6, .inl (cI, 6, .inl aS)), (ad 7, .inl (cI, 2, .inl aF)), (ad 8, .inl (cI, 12, .inl aN))] := hD
    refine lv_aload_n hx hb dX5_claim_30 rfl (lv_at hl 0 rfl) ?_
    refine va_get (D := (dC, dI)) (ci := 3) (v := .int 1) (C := RX5) (T := TX5) (N := 14) hx hb hts (fun w h => List.mem_cons_of_mem _ (wf_X5 w h)) hown hK hP 0 rfl rfl 0 (by decide) (hts _ (List.mem_cons_of_mem _ wm_fl_X5_34)) (fun _ h9 => h9) rfl dX5_claim_31 ?_
    refine lv_if_le (tgt := 39) hx hb dX5_claim_34 (by decide) (fun h7 => absurd h7 (by decide)) (fun _ => ?_)
    refine lv_iconst (v := 0) hx hb dX5_claim_37 (by decide) ?_
    exact W.iret (v := 0) hx hb hr (fun t9 ht9 hW9 => ⟨⟨0, (1, aM, mm), rfl, Or.inl ⟨htr, rfl, rfl⟩, by rw [ht9]; exact hP, va_K.moved hW9.alike hK, hD⟩, hS.F ht9⟩) hS.2.2 dX5_claim_38
set_option maxHeartbeats 4000000 in
set_option maxRecDepth 100000 in
theorem ctX5_open (sz : Nat) (hlv : lv ≤ 5) : Met l yX5_open wsX5_open ({ frames := 0, cells := 0, slots := 0, locals := 0 }) (va_Pc [.ref (ad 0)] (fun U => U.heap.size = sz ∧ va_P (dC, dI) vwCl (wM cI ad aK aA aB aC aM aS aF aN th ck fo n mm lv) U.heap ∧ va_K (dC, dI) vwCl [(cI, .int)] U ∧ va_D (fun _ => True) (wM cI ad aK aA aB aC aM aS aF aN th ck fo n mm lv))) (va_Qi (fun r u => (lv = 5 ∧ r = 0 ∧ u = (1, aS, lv)) ∨ (lv < 5 ∧ r = nI (lv + 1) ∧ u = (0, upd aS (lv + 1) (nI mm), lv + 1))) (fun (u : Int32 × (Nat → Int32) × Nat) t9 => va_P (dC, dI) vwCl (wM cI ad aK aA aB aC aM (u.2.1) aF aN (u.1) ck fo n mm (u.2.2)) t9.heap ∧ va_K (dC, dI) vwCl [(cI, .int)] t9 ∧ va_D (va_A (wM cI ad aK aA aB aC aM aS aF aN th ck fo n mm lv) sz) (wM cI ad aK aA aB aC aM (u.2.1) aF aN (u.1) ck fo n mm (u.2.2))) (va_A (wM cI ad aK aA aB aC aM aS aF aN th ck fo n mm lv) sz)) 0 0 (va_A (wM cI ad aK aA aB aC aM aS aF aN th ck fo n mm lv) sz) := by
  refine Met.ofW (cc := cX5_open) (maxL := 1) (ret := (some .int)) (by decide) rfl ?_
  intro p e s m args below meth c s₁ B hml hv
  obtain ⟨rfl, hsz, hP, hK, hD0⟩ := hv
  subst hsz
  have hx := B.exec
  have hb := B.bytes
  have hr := B.returns
  have hts := atoms_spec (ws := wsX5_open) B.pre
  have hown : s.vm.findClass RX5 = some m.cls := findClass_of_methodNamed B.named
  have hlocks := B.notSynchronized
  have hl := lv_entry ([.ref (ad 0)]) (n := 1) (Nat.le_of_ble_eq_true rfl)
  rw [lg_entry_eq]
  generalize (lg_sl ([.ref (ad 0)]) ++ List.replicate (1 - (lg_sl ([.ref (ad 0)])).length) Slot.unset).toArray = ls at hl ⊢
  have hl : lv_has ls 1 [(0, .ref (ad 0))] := hl
  have hD := hD0.self (sz := s.heap.size)
  generalize hAe : va_A (wM cI ad aK aA aB aC aM aS aF aN th ck fo n mm lv) s.heap.size = A9 at hD ⊢
  have hA : ∀ q : Nat, s.heap.size ≤ q → A9 q := fun q h => by rw [← hAe]; exact Or.inr h
  have hS : va_S A9 s.heap s.heap [] := va_S.rf
  refine lv_aload_n hx hb dX5_open_0 rfl (lv_at hl 0 rfl) ?_
  refine lv_aload_n hx hb dX5_open_1 rfl (lv_at hl 0 rfl) ?_
  refine va_get (D := (dC, dI)) (ci := 3) (v := .int (nI lv)) (C := RX5) (T := TX5) (N := 14) hx hb hts (fun w h => List.mem_cons_of_mem _ (wf_X5 w h)) hown hK hP 0 rfl rfl 8 (by decide) (hts _ (List.mem_cons_of_mem _ wm_fl_X5_102)) (fun _ h9 => h9) rfl dX5_open_2 ?_
  refine lv_iconst (v := nI 5) hx hb dX5_open_5 (by decide) ?_
  refine lv_icmp_ne (tgt := 13) hx hb dX5_open_6 (by decide) (fun h1 => ?_) (fun h1 => ?_)
  · skip
    have h1 : ¬ lv = 5 := fun z => h1 ((nI_eq (a := lv) (b := 5) (by omega) (by omega)).mpr z)
    have hlv5 : lv < 5 := by omega
    refine lv_iconst (v := 0) hx hb dX5_open_13 (by decide) ?_
    refine va_put (D := (dC, dI)) (ci := 3) (v := .int 0) (ty := .int) (C := RX5) (T := TX5) (N := 14) hx hb hts (fun w h => List.mem_cons_of_mem _ (wf_X5 w h)) tyX5 tyX5_ok nmX5 hown hK hP hD hS 0 rfl rfl 0 (by decide) (hts _ (List.mem_cons_of_mem _ wm_fl_X5_34)) (fun _ h9 => h9) rfl (by decide +kernel) rfl rfl (Nat.le_of_ble_eq_true rfl) dX5_open_14 (fun H locs hP hD hS => ?_)
    have hP : va_P (dC, dI) vwCl [(ad 0, .inr (3, [.int 0, .int (nI n), .ref (ad 1), .ref (ad 2), .ref (ad 3), .ref (ad 4), .int (nI mm), .ref (ad 5), .int (nI lv), .ref (ad 6), .int ck, .int fo, .ref (ad 7), .ref (ad 8)])), (ad 1, .inl (cI, 12, .inl aK)), (ad 2, .inl (cI, 12, .inl aA)), (ad 3, .inl (cI, 12, .inl aB)), (ad 4, .inl (cI, 12, .inl aC)), (ad 5, .inl (cI, 20, .inl aM)), (ad 6, .inl (cI, 6, .inl aS)), (ad 7, .inl (cI, 2, .inl aF)), (ad 8, .inl (cI, 12, .inl aN))] H := hP
    have hD : va_D A9 [(ad 0, .inr (3, [.int 0, .int (nI n), .ref (ad 1), .ref (ad 2), .ref (ad 3), .ref (ad 4), .int (nI mm), .ref (ad 5), .int (nI lv), .ref (ad 6), .int ck, .int fo, .ref (ad 7), .ref (ad 8)])), (ad 1, .inl (cI, 12, .inl aK)), (ad 2, .inl (cI, 12, .inl aA)), (ad 3, .inl (cI, 12, .inl aB)), (ad 4, .inl (cI, 12, .inl aC)), (ad 5, .inl (cI, 20, .inl aM)), (ad 6, .inl (cI, 6, .inl aS)), (ad 7, .inl (cI, 2, .inl aF)), (ad 8, .inl (cI, 12, .inl aN))] := hD
    refine lv_aload_n hx hb dX5_open_17 rfl (lv_at hl 0 rfl) ?_
    refine va_get (D := (dC, dI)) (ci := 3) (v := .int 0) (C := RX5) (T := TX5) (N := 14) hx hb hts (fun w h => List.mem_cons_of_mem _ (wf_X5 w h)) hown hK hP 0 rfl rfl 0 (by decide) (hts _ (List.mem_cons_of_mem _ wm_fl_X5_34)) (fun _ h9 => h9) rfl dX5_open_18 ?_
    refine lv_if_le (tgt := 26) hx hb dX5_open_21 (by decide) (fun _ => ?_) (fun h2 => absurd (by decide) h2)
    refine lv_aload_n hx hb dX5_open_26 rfl (lv_at hl 0 rfl) ?_
    refine lv_dup hx hb dX5_open_27 rfl ?_
    refine va_get (D := (dC, dI)) (ci := 3) (v := .int (nI lv)) (C := RX5) (T := TX5) (N := 14) hx hb hts (fun w h => List.mem_cons_of_mem _ (wf_X5 w h)) hown hK hP 0 rfl rfl 8 (by decide) (hts _ (List.mem_cons_of_mem _ wm_fl_X5_102)) (fun _ h9 => h9) rfl dX5_open_28 ?_
    refine lv_iconst (v := 1) hx hb dX5_open_31 (by decide) ?_
    refine lv_iadd hx hb dX5_open_32 ?_
    refine lv_topi (fun y9 e9 => ?_)
    rw [nI_1] at e9
    subst e9
    refine va_put (D := (dC, dI)) (ci := 3) (v := .int (nI (lv + 1))) (ty := .int) (C := RX5) (T := TX5) (N := 14) hx hb hts (fun w h => List.mem_cons_of_mem _ (wf_X5 w h)) tyX5 tyX5_ok nmX5 hown hK hP hD hS 0 rfl rfl 8 (by decide) (hts _ (List.mem_cons_of_mem _ wm_fl_X5_102)) (fun _ h9 => h9) rfl (by decide +kernel) rfl rfl (Nat.le_of_ble_eq_true rfl) dX5_open_33 (fun H locs hP hD hS => ?_)
    have hP : va_P (dC, dI) vwCl [(ad 0, .inr (3, [.int 0, .int (nI n), .ref (ad 1), .ref (ad 2), .ref (ad 3), .ref (ad 4), .int (nI mm), .ref (ad 5), .int (nI (lv + 1)), .ref (ad 6), .int ck, .int fo, .ref (ad 7), .ref (ad 8)])), (ad 1, .inl (cI, 12, .inl aK)), (ad 2, .inl (cI, 12, .inl aA)), (ad 3, .inl (cI, 12, .inl aB)), (ad 4, .inl (cI, 12, .inl aC)), (ad 5, .inl (cI, 20, .inl aM)), (ad 6, .inl (cI, 6, .inl aS)), (ad 7, .inl (cI, 2, .inl aF)), (ad 8, .inl (cI, 12, .inl aN))] H := hP
    have hD : va_D A9 [(ad 0, .inr (3, [.int 0, .int (nI n), .ref (ad 1), .ref (ad 2), .ref (ad 3), .ref (ad 4), .int (nI mm), .ref (ad 5), .int (nI (lv + 1)), .ref (ad 6), .int ck, .int fo, .ref (ad 7), .ref (ad 8)])), (ad 1, .inl (cI, 12, .inl aK)), (ad 2, .inl (cI, 12, .inl aA)), (ad 3, .inl (cI, 12, .inl aB)), (ad 4, .inl (cI, 12, .inl aC)), (ad 5, .inl (cI, 20, .inl aM)), (ad 6, .inl (cI, 6, .inl aS)), (ad 7, .inl (cI, 2, .inl aF)), (ad 8, .inl (cI, 12, .inl aN))] := hD
    refine lv_aload_n hx hb dX5_open_36 rfl (lv_at hl 0 rfl) ?_
    refine va_get (D := (dC, dI)) (ci := 3) (v := .ref (ad 6)) (C := RX5) (T := TX5) (N := 14) hx hb hts (fun w h => List.mem_cons_of_mem _ (wf_X5 w h)) hown hK hP 0 rfl rfl 9 (by decide) (hts _ (List.mem_cons_of_mem _ wm_fl_X5_25)) (fun _ h9 => h9) rfl dX5_open_37 ?_
    refine lv_aload_n hx hb dX5_open_40 rfl (lv_at hl 0 rfl) ?_
    refine va_get (D := (dC, dI)) (ci := 3) (v := .int (nI (lv + 1))) (C := RX5) (T := TX5) (N := 14) hx hb hts (fun w h => List.mem_cons_of_mem _ (wf_X5 w h)) hown hK hP 0 rfl rfl 8 (by decide) (hts _ (List.mem_cons_of_mem _ wm_fl_X5_102)) (fun _ h9 => h9) rfl dX5_open_41 ?_
    refine lv_aload_n hx hb dX5_open_44 rfl (lv_at hl 0 rfl) ?_
    refine va_get (D := (dC, dI)) (ci := 3) (v := .int (nI mm)) (C := RX5) (T := TX5) (N := 14) hx hb hts (fun w h => List.mem_cons_of_mem _ (wf_X5 w h)) hown hK hP 0 rfl rfl 6 (by decide) (hts _ (List.mem_cons_of_mem _ wm_fl_X5_99)) (fun _ h9 => h9) rfl dX5_open_45 ?_
    refine xr_iast (t := lv + 1) (x := nI mm) hx hb hK hP hD hS 6 0 rfl rfl (by omega) (by omega) dX5_open_48 (fun H locs hP hD hS => ?_)
    have hP : va_P (dC, dI) vwCl [(ad 0, .inr (3, [.int 0, .int (nI n), .ref (ad 1), .ref (ad 2), .ref (ad 3), .ref (ad 4), .int (nI mm), .ref (ad 5), .int (nI (lv + 1)), .ref (ad 6), .int ck, .int fo, .ref (ad 7), .ref (ad 8)])), (ad 1, .inl (cI, 12, .inl aK)), (ad 2, .inl (cI, 12, .inl aA)), (ad 3, .inl (cI, 12, .inl aB)), (ad 4, .inl (cI, 12, .inl aC)), (ad 5, .inl (cI, 20, .inl aM)), (ad 6, .inl (cI, 6, .inl (upd aS (lv + 1) (nI mm)))), (ad 7, .inl (cI, 2, .inl aF)), (ad 8, .inl (cI, 12, .inl aN))] H := hP
    have hD : va_D A9 [(ad 0, .inr (3, [.int 0, .int (nI n), .ref (ad 1), .ref (ad 2), .ref (ad 3), .ref (ad 4), .int (nI mm), .ref (ad 5), .int (nI (lv + 1)), .ref (ad 6), .int ck, .int fo, .ref (ad 7), .ref (ad 8)])), (ad 1, .inl (cI, 12, .inl aK)), (ad 2, .inl (cI, 12, .inl aA)), (ad 3, .inl (cI, 12, .inl aB)), (ad 4, .inl (cI, 12, .inl aC)), (ad 5, .inl (cI, 20, .inl aM)), (ad 6, .inl (cI, 6, .inl (upd aS (lv + 1) (nI mm)))), (ad 7, .inl (cI, 2, .inl aF)), (ad 8, .inl (cI, 12, .inl aN))] := hD
    refine lv_aload_n hx hb dX5_open_49 rfl (lv_at hl 0 rfl) ?_
    refine va_get (D := (dC, dI)) (ci := 3) (v := .int (nI (lv + 1))) (C := RX5) (T := TX5) (N := 14) hx hb hts (fun w h => List.mem_cons_of_mem _ (wf_X5 w h)) hown hK hP 0 rfl rfl 8 (by decide) (hts _ (List.mem_cons_of_mem _ wm_fl_X5_102)) (fun _ h9 => h9) rfl dX5_open_50 ?_
    exact W.iret (v := nI (lv + 1)) hx hb hr (fun t9 ht9 hW9 => ⟨⟨nI (lv + 1), (0, upd aS (lv + 1) (nI mm), lv + 1), rfl, Or.inr ⟨by omega, rfl, rfl⟩, by rw [ht9]; exact hP, va_K.moved hW9.alike hK, hD⟩, hS.F ht9⟩) hS.2.2 dX5_open_53
  · skip
    have h1 : lv = 5 := (nI_eq (a := lv) (b := 5) (by omega) (by omega)).mp h1
    refine lv_iconst (v := 1) hx hb dX5_open_9 (by decide) ?_
    refine lv_goto (tgt := 14) hx hb dX5_open_10 (by decide) ?_
    refine va_put (D := (dC, dI)) (ci := 3) (v := .int 1) (ty := .int) (C := RX5) (T := TX5) (N := 14) hx hb hts (fun w h => List.mem_cons_of_mem _ (wf_X5 w h)) tyX5 tyX5_ok nmX5 hown hK hP hD hS 0 rfl rfl 0 (by decide) (hts _ (List.mem_cons_of_mem _ wm_fl_X5_34)) (fun _ h9 => h9) rfl (by decide +kernel) rfl rfl (Nat.le_of_ble_eq_true rfl) dX5_open_14 (fun H locs hP hD hS => ?_)
    have hP : va_P (dC, dI) vwCl [(ad 0, .inr (3, [.int 1, .int (nI n), .ref (ad 1), .ref (ad 2), .ref (ad 3), .ref (ad 4), .int (nI mm), .ref (ad 5), .int (nI lv), .ref (ad 6), .int ck, .int fo, .ref (ad 7), .ref (ad 8)])), (ad 1, .inl (cI, 12, .inl aK)), (ad 2, .inl (cI, 12, .inl aA)), (ad 3, .inl (cI, 12, .inl aB)), (ad 4, .inl (cI, 12, .inl aC)), (ad 5, .inl (cI, 20, .inl aM)), (ad 6, .inl (cI, 6, .inl aS)), (ad 7, .inl (cI, 2, .inl aF)), (ad 8, .inl (cI, 12, .inl aN))] H := hP
    have hD : va_D A9 [(ad 0, .inr (3, [.int 1, .int (nI n), .ref (ad 1), .ref (ad 2), .ref (ad 3), .ref (ad 4), .int (nI mm), .ref (ad 5), .int (nI lv), .ref (ad 6), .int ck, .int fo, .ref (ad 7), .ref (ad 8)])), (ad 1, .inl (cI, 12, .inl aK)), (ad 2, .inl (cI, 12, .inl aA)), (ad 3, .inl (cI, 12, .inl aB)), (ad 4, .inl (cI, 12, .inl aC)), (ad 5, .inl (cI, 20, .inl aM)), (ad 6, .inl (cI, 6, .inl aS)), (ad 7, .inl (cI, 2, .inl aF)), (ad 8, .inl (cI, 12, .inl aN))] := hD
    refine lv_aload_n hx hb dX5_open_17 rfl (lv_at hl 0 rfl) ?_
    refine va_get (D := (dC, dI)) (ci := 3) (v := .int 1) (C := RX5) (T := TX5) (N := 14) hx hb hts (fun w h => List.mem_cons_of_mem _ (wf_X5 w h)) hown hK hP 0 rfl rfl 0 (by decide) (hts _ (List.mem_cons_of_mem _ wm_fl_X5_34)) (fun _ h9 => h9) rfl dX5_open_18 ?_
    refine lv_if_le (tgt := 26) hx hb dX5_open_21 (by decide) (fun h3 => absurd h3 (by decide)) (fun _ => ?_)
    refine lv_iconst (v := 0) hx hb dX5_open_24 (by decide) ?_
    exact W.iret (v := 0) hx hb hr (fun t9 ht9 hW9 => ⟨⟨0, (1, aS, lv), rfl, Or.inl ⟨h1, rfl, rfl⟩, by rw [ht9]; exact hP, va_K.moved hW9.alike hK, hD⟩, hS.F ht9⟩) hS.2.2 dX5_open_25
set_option maxHeartbeats 4000000 in
set_option maxRecDepth 100000 in
theorem ctX5_close0 (sz : Nat) : Met l yX5_close wsX5_close ({ frames := 0, cells := 0, slots := 0, locals := 0 }) (va_Pc [.ref (ad 0)] (fun U => U.heap.size = sz ∧ va_P (dC, dI) vwCl (wM cI ad aK aA aB aC aM aS aF aN th ck fo n mm 0) U.heap ∧ va_K (dC, dI) vwCl [(cI, .int)] U ∧ va_D (fun _ => True) (wM cI ad aK aA aB aC aM aS aF aN th ck fo n mm 0))) (va_Qi (fun r _ => r = 0) (fun (u : Unit) t9 => va_P (dC, dI) vwCl (wM cI ad aK aA aB aC aM aS aF aN 1 ck fo n mm 0) t9.heap ∧ va_K (dC, dI) vwCl [(cI, .int)] t9 ∧ va_D (va_A (wM cI ad aK aA aB aC aM aS aF aN th ck fo n mm 0) sz) (wM cI ad aK aA aB aC aM aS aF aN 1 ck fo n mm 0)) (va_A (wM cI ad aK aA aB aC aM aS aF aN th ck fo n mm 0) sz)) 0 0 (va_A (wM cI ad aK aA aB aC aM aS aF aN th ck fo n mm 0) sz) := by
  refine Met.ofW (cc := cX5_close) (maxL := 2) (ret := (some .int)) (by decide) rfl ?_
  intro p e s m args below meth c s₁ B hml hv
  obtain ⟨rfl, hsz, hP, hK, hD0⟩ := hv
  subst hsz
  have hx := B.exec
  have hb := B.bytes
  have hr := B.returns
  have hts := atoms_spec (ws := wsX5_close) B.pre
  have hown : s.vm.findClass RX5 = some m.cls := findClass_of_methodNamed B.named
  have hlocks := B.notSynchronized
  have hl := lv_entry ([.ref (ad 0)]) (n := 2) (Nat.le_of_ble_eq_true rfl)
  rw [lg_entry_eq]
  generalize (lg_sl ([.ref (ad 0)]) ++ List.replicate (2 - (lg_sl ([.ref (ad 0)])).length) Slot.unset).toArray = ls at hl ⊢
  have hl : lv_has ls 2 [(0, .ref (ad 0))] := hl
  have hD := hD0.self (sz := s.heap.size)
  generalize hAe : va_A (wM cI ad aK aA aB aC aM aS aF aN th ck fo n mm 0) s.heap.size = A9 at hD ⊢
  have hA : ∀ q : Nat, s.heap.size ≤ q → A9 q := fun q h => by rw [← hAe]; exact Or.inr h
  have hS : va_S A9 s.heap s.heap [] := va_S.rf
  refine lv_aload_n hx hb dX5_close_0 rfl (lv_at hl 0 rfl) ?_
  refine lv_aload_n hx hb dX5_close_1 rfl (lv_at hl 0 rfl) ?_
  refine va_get (D := (dC, dI)) (ci := 3) (v := .int (nI 0)) (C := RX5) (T := TX5) (N := 14) hx hb hts (fun w h => List.mem_cons_of_mem _ (wf_X5 w h)) hown hK hP 0 rfl rfl 8 (by decide) (hts _ (List.mem_cons_of_mem _ wm_fl_X5_102)) (fun _ h9 => h9) rfl dX5_close_2 ?_
  refine lv_if_ne (tgt := 12) hx hb dX5_close_5 (by decide) (fun h1 => absurd (by decide) h1) (fun _ => ?_)
  refine lv_iconst (v := 1) hx hb dX5_close_8 (by decide) ?_
  refine lv_goto (tgt := 13) hx hb dX5_close_9 (by decide) ?_
  refine va_put (D := (dC, dI)) (ci := 3) (v := .int 1) (ty := .int) (C := RX5) (T := TX5) (N := 14) hx hb hts (fun w h => List.mem_cons_of_mem _ (wf_X5 w h)) tyX5 tyX5_ok nmX5 hown hK hP hD hS 0 rfl rfl 0 (by decide) (hts _ (List.mem_cons_of_mem _ wm_fl_X5_34)) (fun _ h9 => h9) rfl (by decide +kernel) rfl rfl (Nat.le_of_ble_eq_true rfl) dX5_close_13 (fun H locs hP hD hS => ?_)
  have hP : va_P (dC, dI) vwCl [(ad 0, .inr (3, [.int 1, .int (nI n), .ref (ad 1), .ref (ad 2), .ref (ad 3), .ref (ad 4), .int (nI mm), .ref (ad 5), .int (nI 0), .ref (ad 6), .int ck, .int fo, .ref (ad 7), .ref (ad 8)])), (ad 1, .inl (cI, 12, .inl aK)), (ad 2, .inl (cI, 12, .inl aA)), (ad 3, .inl (cI, 12, .inl aB)), (ad 4, .inl (cI, 12, .inl aC)), (ad 5, .inl (cI, 20, .inl aM)), (ad 6, .inl (cI, 6, .inl aS)), (ad 7, .inl (cI, 2, .inl aF)), (ad 8, .inl (cI, 12, .inl aN))] H := hP
  have hD : va_D A9 [(ad 0, .inr (3, [.int 1, .int (nI n), .ref (ad 1), .ref (ad 2), .ref (ad 3), .ref (ad 4), .int (nI mm), .ref (ad 5), .int (nI 0), .ref (ad 6), .int ck, .int fo, .ref (ad 7), .ref (ad 8)])), (ad 1, .inl (cI, 12, .inl aK)), (ad 2, .inl (cI, 12, .inl aA)), (ad 3, .inl (cI, 12, .inl aB)), (ad 4, .inl (cI, 12, .inl aC)), (ad 5, .inl (cI, 20, .inl aM)), (ad 6, .inl (cI, 6, .inl aS)), (ad 7, .inl (cI, 2, .inl aF)), (ad 8, .inl (cI, 12, .inl aN))] := hD
  refine lv_aload_n hx hb dX5_close_16 rfl (lv_at hl 0 rfl) ?_
  refine va_get (D := (dC, dI)) (ci := 3) (v := .int 1) (C := RX5) (T := TX5) (N := 14) hx hb hts (fun w h => List.mem_cons_of_mem _ (wf_X5 w h)) hown hK hP 0 rfl rfl 0 (by decide) (hts _ (List.mem_cons_of_mem _ wm_fl_X5_34)) (fun _ h9 => h9) rfl dX5_close_17 ?_
  refine lv_if_le (tgt := 25) hx hb dX5_close_20 (by decide) (fun h2 => absurd h2 (by decide)) (fun _ => ?_)
  refine lv_iconst (v := 0) hx hb dX5_close_23 (by decide) ?_
  exact W.iret (v := 0) hx hb hr (fun t9 ht9 hW9 => ⟨⟨0, (), rfl, rfl, by rw [ht9]; exact hP, va_K.moved hW9.alike hK, hD⟩, hS.F ht9⟩) hS.2.2 dX5_close_24
set_option maxHeartbeats 4000000 in
set_option maxRecDepth 100000 in
theorem ctX5_close1 (sz v0 : Nat) (hlv : lv < 5) (hv0 : v0 ≤ mm) (has : aS (lv + 1) = nI v0) : Met l yX5_close wsX5_close ({ frames := 0, cells := 0, slots := 0, locals := 0 }) (va_Pc [.ref (ad 0)] (fun U => U.heap.size = sz ∧ va_P (dC, dI) vwCl (wM cI ad aK aA aB aC aM aS aF aN th ck fo n mm (lv + 1)) U.heap ∧ va_K (dC, dI) vwCl [(cI, .int)] U ∧ va_D (fun _ => True) (wM cI ad aK aA aB aC aM aS aF aN th ck fo n mm (lv + 1)))) (va_Qi (fun r _ => r = nI (mm - v0)) (fun (u : Unit) t9 => va_P (dC, dI) vwCl (wM cI ad aK aA aB aC aM aS aF aN 0 ck fo n v0 lv) t9.heap ∧ va_K (dC, dI) vwCl [(cI, .int)] t9 ∧ va_D (va_A (wM cI ad aK aA aB aC aM aS aF aN th ck fo n mm (lv + 1)) sz) (wM cI ad aK aA aB aC aM aS aF aN 0 ck fo n v0 lv)) (va_A (wM cI ad aK aA aB aC aM aS aF aN th ck fo n mm (lv + 1)) sz)) 0 0 (va_A (wM cI ad aK aA aB aC aM aS aF aN th ck fo n mm (lv + 1)) sz) := by
  refine Met.ofW (cc := cX5_close) (maxL := 2) (ret := (some .int)) (by decide) rfl ?_
  intro p e s m args below meth c s₁ B hml hv
  obtain ⟨rfl, hsz, hP, hK, hD0⟩ := hv
  subst hsz
  have hx := B.exec
  have hb := B.bytes
  have hr := B.returns
  have hts := atoms_spec (ws := wsX5_close) B.pre
  have hown : s.vm.findClass RX5 = some m.cls := findClass_of_methodNamed B.named
  have hlocks := B.notSynchronized
  have hl := lv_entry ([.ref (ad 0)]) (n := 2) (Nat.le_of_ble_eq_true rfl)
  rw [lg_entry_eq]
  generalize (lg_sl ([.ref (ad 0)]) ++ List.replicate (2 - (lg_sl ([.ref (ad 0)])).length) Slot.unset).toArray = ls at hl ⊢
  have hl : lv_has ls 2 [(0, .ref (ad 0))] := hl
  have hD := hD0.self (sz := s.heap.size)
  generalize hAe : va_A (wM cI ad aK aA aB aC aM aS aF aN th ck fo n mm (lv + 1)) s.heap.size = A9 at hD ⊢
  have hA : ∀ q : Nat, s.heap.size ≤ q → A9 q := fun q h => by rw [← hAe]; exact Or.inr h
  have hS : va_S A9 s.heap s.heap [] := va_S.rf
  refine lv_aload_n hx hb dX5_close_0 rfl (lv_at hl 0 rfl) ?_
  refine lv_aload_n hx hb dX5_close_1 rfl (lv_at hl 0 rfl) ?_
  refine va_get (D := (dC, dI)) (ci := 3) (v := .int (nI (lv + 1))) (C := RX5) (T := TX5) (N := 14) hx hb hts (fun w h => List.mem_cons_of_mem _ (wf_X5 w h)) hown hK hP 0 rfl rfl 8 (by decide) (hts _ (List.mem_cons_of_mem _ wm_fl_X5_102)) (fun _ h9 => h9) rfl dX5_close_2 ?_
  refine lv_if_ne (tgt := 12) hx hb dX5_close_5 (by decide) (fun _ => ?_) (fun h1 => absurd h1 (nI_ne0 (by omega) (by omega)))
  refine lv_iconst (v := 0) hx hb dX5_close_12 (by decide) ?_
  refine va_put (D := (dC, dI)) (ci := 3) (v := .int 0) (ty := .int) (C := RX5) (T := TX5) (N := 14) hx hb hts (fun w h => List.mem_cons_of_mem _ (wf_X5 w h)) tyX5 tyX5_ok nmX5 hown hK hP hD hS 0 rfl rfl 0 (by decide) (hts _ (List.mem_cons_of_mem _ wm_fl_X5_34)) (fun _ h9 => h9) rfl (by decide +kernel) rfl rfl (Nat.le_of_ble_eq_true rfl) dX5_close_13 (fun H locs hP hD hS => ?_)
  have hP : va_P (dC, dI) vwCl [(ad 0, .inr (3, [.int 0, .int (nI n), .ref (ad 1), .ref (ad 2), .ref (ad 3), .ref (ad 4), .int (nI mm), .ref (ad 5), .int (nI (lv + 1)), .ref (ad 6), .int ck, .int fo, .ref (ad 7), .ref (ad 8)])), (ad 1, .inl (cI, 12, .inl aK)), (ad 2, .inl (cI, 12, .inl aA)), (ad 3, .inl (cI, 12, .inl aB)), (ad 4, .inl (cI, 12, .inl aC)), (ad 5, .inl (cI, 20, .inl aM)), (ad 6, .inl (cI, 6, .inl aS)), (ad 7, .inl (cI, 2, .inl aF)), (ad 8, .inl (cI, 12, .inl aN))] H := hP
  have hD : va_D A9 [(ad 0, .inr (3, [.int 0, .int (nI n), .ref (ad 1), .ref (ad 2), .ref (ad 3), .ref (ad 4), .int (nI mm), .ref (ad 5), .int (nI (lv + 1)), .ref (ad 6), .int ck, .int fo, .ref (ad 7), .ref (ad 8)])), (ad 1, .inl (cI, 12, .inl aK)), (ad 2, .inl (cI, 12, .inl aA)), (ad 3, .inl (cI, 12, .inl aB)), (ad 4, .inl (cI, 12, .inl aC)), (ad 5, .inl (cI, 20, .inl aM)), (ad 6, .inl (cI, 6, .inl aS)), (ad 7, .inl (cI, 2, .inl aF)), (ad 8, .inl (cI, 12, .inl aN))] := hD
  refine lv_aload_n hx hb dX5_close_16 rfl (lv_at hl 0 rfl) ?_
  refine va_get (D := (dC, dI)) (ci := 3) (v := .int 0) (C := RX5) (T := TX5) (N := 14) hx hb hts (fun w h => List.mem_cons_of_mem _ (wf_X5 w h)) hown hK hP 0 rfl rfl 0 (by decide) (hts _ (List.mem_cons_of_mem _ wm_fl_X5_34)) (fun _ h9 => h9) rfl dX5_close_17 ?_
  refine lv_if_le (tgt := 25) hx hb dX5_close_20 (by decide) (fun _ => ?_) (fun h2 => absurd (by decide) h2)
  refine lv_aload_n hx hb dX5_close_25 rfl (lv_at hl 0 rfl) ?_
  refine va_get (D := (dC, dI)) (ci := 3) (v := .int (nI mm)) (C := RX5) (T := TX5) (N := 14) hx hb hts (fun w h => List.mem_cons_of_mem _ (wf_X5 w h)) hown hK hP 0 rfl rfl 6 (by decide) (hts _ (List.mem_cons_of_mem _ wm_fl_X5_99)) (fun _ h9 => h9) rfl dX5_close_26 ?_
  refine lv_aload_n hx hb dX5_close_29 rfl (lv_at hl 0 rfl) ?_
  refine va_get (D := (dC, dI)) (ci := 3) (v := .ref (ad 6)) (C := RX5) (T := TX5) (N := 14) hx hb hts (fun w h => List.mem_cons_of_mem _ (wf_X5 w h)) hown hK hP 0 rfl rfl 9 (by decide) (hts _ (List.mem_cons_of_mem _ wm_fl_X5_25)) (fun _ h9 => h9) rfl dX5_close_30 ?_
  refine lv_aload_n hx hb dX5_close_33 rfl (lv_at hl 0 rfl) ?_
  refine va_get (D := (dC, dI)) (ci := 3) (v := .int (nI (lv + 1))) (C := RX5) (T := TX5) (N := 14) hx hb hts (fun w h => List.mem_cons_of_mem _ (wf_X5 w h)) hown hK hP 0 rfl rfl 8 (by decide) (hts _ (List.mem_cons_of_mem _ wm_fl_X5_102)) (fun _ h9 => h9) rfl dX5_close_34 ?_
  refine xr_iald (t := lv + 1) (v := nI v0) hx hb hK hP 6 0 rfl rfl (by omega) (by omega) (has) dX5_close_37 ?_
  refine lv_isub hx hb dX5_close_38 ?_
  refine lv_topi (fun y9 e9 => ?_)
  rw [pk_sub hv0] at e9
  subst e9
  refine lv_istore_n (lv' := [(1, .int (nI (mm - v0))), (0, .ref (ad 0))]) hx hb dX5_close_39 rfl hl (by decide) rfl (fun ls hl => ?_)
  refine lv_aload_n hx hb dX5_close_40 rfl (lv_at hl 1 rfl) ?_
  refine lv_aload_n hx hb dX5_close_41 rfl (lv_at hl 1 rfl) ?_
  refine va_get (D := (dC, dI)) (ci := 3) (v := .ref (ad 6)) (C := RX5) (T := TX5) (N := 14) hx hb hts (fun w h => List.mem_cons_of_mem _ (wf_X5 w h)) hown hK hP 0 rfl rfl 9 (by decide) (hts _ (List.mem_cons_of_mem _ wm_fl_X5_25)) (fun _ h9 => h9) rfl dX5_close_42 ?_
  refine lv_aload_n hx hb dX5_close_45 rfl (lv_at hl 1 rfl) ?_
  refine va_get (D := (dC, dI)) (ci := 3) (v := .int (nI (lv + 1))) (C := RX5) (T := TX5) (N := 14) hx hb hts (fun w h => List.mem_cons_of_mem _ (wf_X5 w h)) hown hK hP 0 rfl rfl 8 (by decide) (hts _ (List.mem_cons_of_mem _ wm_fl_X5_102)) (fun _ h9 => h9) rfl dX5_close_46 ?_
  refine xr_iald (t := lv + 1) (v := nI v0) hx hb hK hP 6 0 rfl rfl (by omega) (by omega) (has) dX5_close_49 ?_
  refine va_put (D := (dC, dI)) (ci := 3) (v := .int (nI v0)) (ty := .int) (C := RX5) (T := TX5) (N := 14) hx hb hts (fun w h => List.mem_cons_of_mem _ (wf_X5 w h)) tyX5 tyX5_ok nmX5 hown hK hP hD hS 0 rfl rfl 6 (by decide) (hts _ (List.mem_cons_of_mem _ wm_fl_X5_99)) (fun _ h9 => h9) rfl (by decide +kernel) rfl rfl (Nat.le_of_ble_eq_true rfl) dX5_close_50 (fun H locs hP hD hS => ?_)
  have hP : va_P (dC, dI) vwCl [(ad 0, .inr (3, [.int 0, .int (nI n), .ref (ad 1), .ref (ad 2), .ref (ad 3), .ref (ad 4), .int (nI v0), .ref (ad 5), .int (nI (lv + 1)), .ref (ad 6), .int ck, .int fo, .ref (ad 7), .ref (ad 8)])), (ad 1, .inl (cI, 12, .inl aK)), (ad 2, .inl (cI, 12, .inl aA)), (ad 3, .inl (cI, 12, .inl aB)), (ad 4, .inl (cI, 12, .inl aC)), (ad 5, .inl (cI, 20, .inl aM)), (ad 6, .inl (cI, 6, .inl aS)), (ad 7, .inl (cI, 2, .inl aF)), (ad 8, .inl (cI, 12, .inl aN))] H := hP
  have hD : va_D A9 [(ad 0, .inr (3, [.int 0, .int (nI n), .ref (ad 1), .ref (ad 2), .ref (ad 3), .ref (ad 4), .int (nI v0), .ref (ad 5), .int (nI (lv + 1)), .ref (ad 6), .int ck, .int fo, .ref (ad 7), .ref (ad 8)])), (ad 1, .inl (cI, 12, .inl aK)), (ad 2, .inl (cI, 12, .inl aA)), (ad 3, .inl (cI, 12, .inl aB)), (ad 4, .inl (cI, 12, .inl aC)), (ad 5, .inl (cI, 20, .inl aM)), (ad 6, .inl (cI, 6, .inl aS)), (ad 7, .inl (cI, 2, .inl aF)), (ad 8, .inl (cI, 12, .inl aN))] := hD
  refine lv_aload_n hx hb dX5_close_53 rfl (lv_at hl 1 rfl) ?_
  refine lv_dup hx hb dX5_close_54 rfl ?_
  refine va_get (D := (dC, dI)) (ci := 3) (v := .int (nI (lv + 1))) (C := RX5) (T := TX5) (N := 14) hx hb hts (fun w h => List.mem_cons_of_mem _ (wf_X5 w h)) hown hK hP 0 rfl rfl 8 (by decide) (hts _ (List.mem_cons_of_mem _ wm_fl_X5_102)) (fun _ h9 => h9) rfl dX5_close_55 ?_
  refine lv_iconst (v := 1) hx hb dX5_close_58 (by decide) ?_
  refine lv_isub hx hb dX5_close_59 ?_
  refine lv_topi (fun y9 e9 => ?_)
  rw [nI_pred] at e9
  subst e9
  refine va_put (D := (dC, dI)) (ci := 3) (v := .int (nI lv)) (ty := .int) (C := RX5) (T := TX5) (N := 14) hx hb hts (fun w h => List.mem_cons_of_mem _ (wf_X5 w h)) tyX5 tyX5_ok nmX5 hown hK hP hD hS 0 rfl rfl 8 (by decide) (hts _ (List.mem_cons_of_mem _ wm_fl_X5_102)) (fun _ h9 => h9) rfl (by decide +kernel) rfl rfl (Nat.le_of_ble_eq_true rfl) dX5_close_60 (fun H locs hP hD hS => ?_)
  have hP : va_P (dC, dI) vwCl [(ad 0, .inr (3, [.int 0, .int (nI n), .ref (ad 1), .ref (ad 2), .ref (ad 3), .ref (ad 4), .int (nI v0), .ref (ad 5), .int (nI lv), .ref (ad 6), .int ck, .int fo, .ref (ad 7), .ref (ad 8)])), (ad 1, .inl (cI, 12, .inl aK)), (ad 2, .inl (cI, 12, .inl aA)), (ad 3, .inl (cI, 12, .inl aB)), (ad 4, .inl (cI, 12, .inl aC)), (ad 5, .inl (cI, 20, .inl aM)), (ad 6, .inl (cI, 6, .inl aS)), (ad 7, .inl (cI, 2, .inl aF)), (ad 8, .inl (cI, 12, .inl aN))] H := hP
  have hD : va_D A9 [(ad 0, .inr (3, [.int 0, .int (nI n), .ref (ad 1), .ref (ad 2), .ref (ad 3), .ref (ad 4), .int (nI v0), .ref (ad 5), .int (nI lv), .ref (ad 6), .int ck, .int fo, .ref (ad 7), .ref (ad 8)])), (ad 1, .inl (cI, 12, .inl aK)), (ad 2, .inl (cI, 12, .inl aA)), (ad 3, .inl (cI, 12, .inl aB)), (ad 4, .inl (cI, 12, .inl aC)), (ad 5, .inl (cI, 20, .inl aM)), (ad 6, .inl (cI, 6, .inl aS)), (ad 7, .inl (cI, 2, .inl aF)), (ad 8, .inl (cI, 12, .inl aN))] := hD
  refine lv_iload_n hx hb dX5_close_63 rfl (lv_at hl 0 rfl) ?_
  exact W.iret (v := nI (mm - v0)) hx hb hr (fun t9 ht9 hW9 => ⟨⟨nI (mm - v0), (), rfl, rfl, by rw [ht9]; exact hP, va_K.moved hW9.alike hK, hD⟩, hS.F ht9⟩) hS.2.2 dX5_close_64
set_option maxHeartbeats 4000000 in
set_option maxRecDepth 100000 in
theorem ctX5_model (sz : Nat) (hfo : fo = 0 ∨ fo = 1) (x : Int32) : Met l yX5_model wsX5_model ({ frames := 1, cells := 0, slots := 0, locals := 21 }) (va_Pc [.ref (ad 0), .int x] (fun U => U.heap.size = sz ∧ va_P (dC, dI) vwCl (wM cI ad aK aA aB aC aM aS aF aN th ck fo n mm lv) U.heap ∧ va_K (dC, dI) vwCl [(cI, .int)] U ∧ va_D (fun _ => True) (wM cI ad aK aA aB aC aM aS aF aN th ck fo n mm lv))) (va_Qi (fun r u => (¬ (∃ j, j < 2 ∧ x = nI j) ∧ r = 0 ∧ u = 1) ∨ ((∃ j, j < 2 ∧ x = nI j) ∧ fo = 0 ∧ r = 0 ∧ u = 2) ∨ (fo = 1 ∧ u = 0 ∧ ∃ j, j < 2 ∧ x = nI j ∧ r = aF j)) (fun (u : Int32) t9 => va_P (dC, dI) vwCl (wM cI ad aK aA aB aC aM aS aF aN u ck fo n mm lv) t9.heap ∧ va_K (dC, dI) vwCl [(cI, .int)] t9 ∧ va_D (va_A (wM cI ad aK aA aB aC aM aS aF aN th ck fo n mm lv) sz) (wM cI ad aK aA aB aC aM aS aF aN u ck fo n mm lv)) (va_A (wM cI ad aK aA aB aC aM aS aF aN th ck fo n mm lv) sz)) 0 0 (va_A (wM cI ad aK aA aB aC aM aS aF aN th ck fo n mm lv) sz) := by
  refine Met.ofW (cc := cX5_model) (maxL := 2) (ret := (some .int)) (by decide) rfl ?_
  intro p e s m args below meth c s₁ B hml hv
  obtain ⟨rfl, hsz, hP, hK, hD0⟩ := hv
  subst hsz
  have hx := B.exec
  have hb := B.bytes
  have hr := B.returns
  have hts := atoms_spec (ws := wsX5_model) B.pre
  have hown : s.vm.findClass RX5 = some m.cls := findClass_of_methodNamed B.named
  have hlocks := B.notSynchronized
  have hl := lv_entry ([.ref (ad 0), .int x]) (n := 2) (Nat.le_of_ble_eq_true rfl)
  rw [lg_entry_eq]
  generalize (lg_sl ([.ref (ad 0), .int x]) ++ List.replicate (2 - (lg_sl ([.ref (ad 0), .int x])).length) Slot.unset).toArray = ls at hl ⊢
  have hl : lv_has ls 2 [(0, .ref (ad 0)), (1, .int x)] := hl
  have hD := hD0.self (sz := s.heap.size)
  generalize hAe : va_A (wM cI ad aK aA aB aC aM aS aF aN th ck fo n mm lv) s.heap.size = A9 at hD ⊢
  have hA : ∀ q : Nat, s.heap.size ≤ q → A9 q := fun q h => by rw [← hAe]; exact Or.inr h
  have hS : va_S A9 s.heap s.heap [] := va_S.rf
  refine lv_aload_n hx hb dX5_model_0 rfl (lv_at hl 0 rfl) ?_
  refine lv_iload_n hx hb dX5_model_1 rfl (lv_at hl 1 rfl) ?_
  refine lv_iconst (v := 2) hx hb dX5_model_2 (by decide) ?_
  refine vp_callSi (W.runS (As := [.int x, .int 2]) (rest := [.ref (ad 0)]) ⟨hx, hb, hml, hown, hts⟩ (ctX5_out l x 2) (va_cwS 2 hts (wA_wsS wm_ml_X5_79 wm_st_X5_out wm_in_X5 wm_cd_X5_out) rfl rfl rfl (by decide +kernel) ⟨Nat.le_of_ble_eq_true rfl, Nat.le_of_ble_eq_true rfl⟩) ⟨fun a U g mk q => q, fun U hU hW => ⟨rfl, trivial⟩⟩ rfl rfl hl.1 rfl (lv_room (Nat.le_of_ble_eq_true rfl)) dX5_model_3 ⟨Nat.zero_le _, Nat.zero_le _⟩) (fun r1 er1 => ?_)
  by_cases hin : ∃ j, j < 2 ∧ x = nI j
  · obtain ⟨j, hj, rfl⟩ := hin
    have er1 := er1.trans (pm_out_y (n := 2) (by omega) hj)
    subst er1
    refine lv_if_eq (tgt := 13) hx hb dX5_model_6 (by decide) (fun _ => ?_) (fun h2 => absurd (by decide) h2)
    refine lv_aload_n hx hb dX5_model_13 rfl (lv_at hl 0 rfl) ?_
    refine va_get (D := (dC, dI)) (ci := 3) (v := .int fo) (C := RX5) (T := TX5) (N := 14) hx hb hts (fun w h => List.mem_cons_of_mem _ (wf_X5 w h)) hown hK hP 0 rfl rfl 11 (by decide) (hts _ (List.mem_cons_of_mem _ wm_fl_X5_108)) (fun _ h9 => h9) rfl dX5_model_14 ?_
    rcases hfo with rfl | rfl
    · skip
      refine lv_if_eq (tgt := 24) hx hb dX5_model_17 (by decide) (fun _ => ?_) (fun h3 => absurd (by decide) h3)
      refine lv_iconst (v := 2) hx hb dX5_model_24 (by decide) ?_
      refine va_put (D := (dC, dI)) (ci := 3) (v := .int 2) (ty := .int) (C := RX5) (T := TX5) (N := 14) hx hb hts (fun w h => List.mem_cons_of_mem _ (wf_X5 w h)) tyX5 tyX5_ok nmX5 hown hK hP hD hS 0 rfl rfl 0 (by decide) (hts _ (List.mem_cons_of_mem _ wm_fl_X5_34)) (fun _ h9 => h9) rfl (by decide +kernel) rfl rfl (Nat.le_of_ble_eq_true rfl) dX5_model_25 (fun H locs hP hD hS => ?_)
      have hP : va_P (dC, dI) vwCl [(ad 0, .inr (3, [.int 2, .int (nI n), .ref (ad 1), .ref (ad 2), .ref (ad 3), .ref (ad 4), .int (nI mm), .ref (ad 5), .int (nI lv), .ref (ad 6), .int ck, .int 0, .ref (ad 7), .ref (ad 8)])), (ad 1, .inl (cI, 12, .inl aK)), (ad 2, .inl (cI, 12, .inl aA)), (ad 3, .inl (cI, 12, .inl aB)), (ad 4, .inl (cI, 12, .inl aC)), (ad 5, .inl (cI, 20, .inl aM)), (ad 6, .inl (cI, 6, .inl aS)), (ad 7, .inl (cI, 2, .inl aF)), (ad 8, .inl (cI, 12, .inl aN))] H := hP
      have hD : va_D A9 [(ad 0, .inr (3, [.int 2, .int (nI n), .ref (ad 1), .ref (ad 2), .ref (ad 3), .ref (ad 4), .int (nI mm), .ref (ad 5), .int (nI lv), .ref (ad 6), .int ck, .int 0, .ref (ad 7), .ref (ad 8)])), (ad 1, .inl (cI, 12, .inl aK)), (ad 2, .inl (cI, 12, .inl aA)), (ad 3, .inl (cI, 12, .inl aB)), (ad 4, .inl (cI, 12, .inl aC)), (ad 5, .inl (cI, 20, .inl aM)), (ad 6, .inl (cI, 6, .inl aS)), (ad 7, .inl (cI, 2, .inl aF)), (ad 8, .inl (cI, 12, .inl aN))] := hD
      refine lv_aload_n hx hb dX5_model_28 rfl (lv_at hl 0 rfl) ?_
      refine va_get (D := (dC, dI)) (ci := 3) (v := .int 2) (C := RX5) (T := TX5) (N := 14) hx hb hts (fun w h => List.mem_cons_of_mem _ (wf_X5 w h)) hown hK hP 0 rfl rfl 0 (by decide) (hts _ (List.mem_cons_of_mem _ wm_fl_X5_34)) (fun _ h9 => h9) rfl dX5_model_29 ?_
      refine lv_if_le (tgt := 39) hx hb dX5_model_32 (by decide) (fun h4 => absurd h4 (by decide)) (fun _ => ?_)
      refine lv_iconst (v := 0) hx hb dX5_model_35 (by decide) ?_
      refine lv_goto (tgt := 45) hx hb dX5_model_36 (by decide) ?_
      exact W.iret (v := 0) hx hb hr (fun t9 ht9 hW9 => ⟨⟨0, 2, rfl, Or.inr (Or.inl ⟨⟨j, hj, rfl⟩, rfl, rfl, rfl⟩), by rw [ht9]; exact hP, va_K.moved hW9.alike hK, hD⟩, hS.F ht9⟩) hS.2.2 dX5_model_45
    · skip
      refine lv_if_eq (tgt := 24) hx hb dX5_model_17 (by decide) (fun h5 => absurd h5 (by decide)) (fun _ => ?_)
      refine lv_iconst (v := 0) hx hb dX5_model_20 (by decide) ?_
      refine lv_goto (tgt := 25) hx hb dX5_model_21 (by decide) ?_
      refine va_put (D := (dC, dI)) (ci := 3) (v := .int 0) (ty := .int) (C := RX5) (T := TX5) (N := 14) hx hb hts (fun w h => List.mem_cons_of_mem _ (wf_X5 w h)) tyX5 tyX5_ok nmX5 hown hK hP hD hS 0 rfl rfl 0 (by decide) (hts _ (List.mem_cons_of_mem _ wm_fl_X5_34)) (fun _ h9 => h9) rfl (by decide +kernel) rfl rfl (Nat.le_of_ble_eq_true rfl) dX5_model_25 (fun H locs hP hD hS => ?_)
      have hP : va_P (dC, dI) vwCl [(ad 0, .inr (3, [.int 0, .int (nI n), .ref (ad 1), .ref (ad 2), .ref (ad 3), .ref (ad 4), .int (nI mm), .ref (ad 5), .int (nI lv), .ref (ad 6), .int ck, .int 1, .ref (ad 7), .ref (ad 8)])), (ad 1, .inl (cI, 12, .inl aK)), (ad 2, .inl (cI, 12, .inl aA)), (ad 3, .inl (cI, 12, .inl aB)), (ad 4, .inl (cI, 12, .inl aC)), (ad 5, .inl (cI, 20, .inl aM)), (ad 6, .inl (cI, 6, .inl aS)), (ad 7, .inl (cI, 2, .inl aF)), (ad 8, .inl (cI, 12, .inl aN))] H := hP
      have hD : va_D A9 [(ad 0, .inr (3, [.int 0, .int (nI n), .ref (ad 1), .ref (ad 2), .ref (ad 3), .ref (ad 4), .int (nI mm), .ref (ad 5), .int (nI lv), .ref (ad 6), .int ck, .int 1, .ref (ad 7), .ref (ad 8)])), (ad 1, .inl (cI, 12, .inl aK)), (ad 2, .inl (cI, 12, .inl aA)), (ad 3, .inl (cI, 12, .inl aB)), (ad 4, .inl (cI, 12, .inl aC)), (ad 5, .inl (cI, 20, .inl aM)), (ad 6, .inl (cI, 6, .inl aS)), (ad 7, .inl (cI, 2, .inl aF)), (ad 8, .inl (cI, 12, .inl aN))] := hD
      refine lv_aload_n hx hb dX5_model_28 rfl (lv_at hl 0 rfl) ?_
      refine va_get (D := (dC, dI)) (ci := 3) (v := .int 0) (C := RX5) (T := TX5) (N := 14) hx hb hts (fun w h => List.mem_cons_of_mem _ (wf_X5 w h)) hown hK hP 0 rfl rfl 0 (by decide) (hts _ (List.mem_cons_of_mem _ wm_fl_X5_34)) (fun _ h9 => h9) rfl dX5_model_29 ?_
      refine lv_if_le (tgt := 39) hx hb dX5_model_32 (by decide) (fun _ => ?_) (fun h6 => absurd (by decide) h6)
      refine lv_aload_n hx hb dX5_model_39 rfl (lv_at hl 0 rfl) ?_
      refine va_get (D := (dC, dI)) (ci := 3) (v := .ref (ad 7)) (C := RX5) (T := TX5) (N := 14) hx hb hts (fun w h => List.mem_cons_of_mem _ (wf_X5 w h)) hown hK hP 0 rfl rfl 12 (by decide) (hts _ (List.mem_cons_of_mem _ wm_fl_X5_28)) (fun _ h9 => h9) rfl dX5_model_40 ?_
      refine lv_iload_n hx hb dX5_model_43 rfl (lv_at hl 1 rfl) ?_
      refine xr_iald (t := j) (v := aF j) hx hb hK hP 7 0 rfl rfl (by omega) (by omega) (rfl) dX5_model_44 ?_
      exact W.iret (v := aF j) hx hb hr (fun t9 ht9 hW9 => ⟨⟨aF j, 0, rfl, Or.inr (Or.inr ⟨rfl, rfl, j, hj, rfl, rfl⟩), by rw [ht9]; exact hP, va_K.moved hW9.alike hK, hD⟩, hS.F ht9⟩) hS.2.2 dX5_model_45
  · have er1 := er1.trans (pm_out_no (n := 2) (by omega) hin)
    subst er1
    refine lv_if_eq (tgt := 13) hx hb dX5_model_6 (by decide) (fun h7 => absurd h7 (by decide)) (fun _ => ?_)
    refine lv_iconst (v := 1) hx hb dX5_model_9 (by decide) ?_
    refine lv_goto (tgt := 25) hx hb dX5_model_10 (by decide) ?_
    refine va_put (D := (dC, dI)) (ci := 3) (v := .int 1) (ty := .int) (C := RX5) (T := TX5) (N := 14) hx hb hts (fun w h => List.mem_cons_of_mem _ (wf_X5 w h)) tyX5 tyX5_ok nmX5 hown hK hP hD hS 0 rfl rfl 0 (by decide) (hts _ (List.mem_cons_of_mem _ wm_fl_X5_34)) (fun _ h9 => h9) rfl (by decide +kernel) rfl rfl (Nat.le_of_ble_eq_true rfl) dX5_model_25 (fun H locs hP hD hS => ?_)
    have hP : va_P (dC, dI) vwCl [(ad 0, .inr (3, [.int 1, .int (nI n), .ref (ad 1), .ref (ad 2), .ref (ad 3), .ref (ad 4), .int (nI mm), .ref (ad 5), .int (nI lv), .ref (ad 6), .int ck, .int fo, .ref (ad 7), .ref (ad 8)])), (ad 1, .inl (cI, 12, .inl aK)), (ad 2, .inl (cI, 12, .inl aA)), (ad 3, .inl (cI, 12, .inl aB)), (ad 4, .inl (cI, 12, .inl aC)), (ad 5, .inl (cI, 20, .inl aM)), (ad 6, .inl (cI, 6, .inl aS)), (ad 7, .inl (cI, 2, .inl aF)), (ad 8, .inl (cI, 12, .inl aN))] H := hP
    have hD : va_D A9 [(ad 0, .inr (3, [.int 1, .int (nI n), .ref (ad 1), .ref (ad 2), .ref (ad 3), .ref (ad 4), .int (nI mm), .ref (ad 5), .int (nI lv), .ref (ad 6), .int ck, .int fo, .ref (ad 7), .ref (ad 8)])), (ad 1, .inl (cI, 12, .inl aK)), (ad 2, .inl (cI, 12, .inl aA)), (ad 3, .inl (cI, 12, .inl aB)), (ad 4, .inl (cI, 12, .inl aC)), (ad 5, .inl (cI, 20, .inl aM)), (ad 6, .inl (cI, 6, .inl aS)), (ad 7, .inl (cI, 2, .inl aF)), (ad 8, .inl (cI, 12, .inl aN))] := hD
    refine lv_aload_n hx hb dX5_model_28 rfl (lv_at hl 0 rfl) ?_
    refine va_get (D := (dC, dI)) (ci := 3) (v := .int 1) (C := RX5) (T := TX5) (N := 14) hx hb hts (fun w h => List.mem_cons_of_mem _ (wf_X5 w h)) hown hK hP 0 rfl rfl 0 (by decide) (hts _ (List.mem_cons_of_mem _ wm_fl_X5_34)) (fun _ h9 => h9) rfl dX5_model_29 ?_
    refine lv_if_le (tgt := 39) hx hb dX5_model_32 (by decide) (fun h8 => absurd h8 (by decide)) (fun _ => ?_)
    refine lv_iconst (v := 0) hx hb dX5_model_35 (by decide) ?_
    refine lv_goto (tgt := 45) hx hb dX5_model_36 (by decide) ?_
    exact W.iret (v := 0) hx hb hr (fun t9 ht9 hW9 => ⟨⟨0, 1, rfl, Or.inl ⟨hin, rfl, rfl⟩, by rw [ht9]; exact hP, va_K.moved hW9.alike hK, hD⟩, hS.F ht9⟩) hS.2.2 dX5_model_45
set_option maxHeartbeats 4000000 in
set_option maxRecDepth 100000 in
theorem ctX5_reckon (sz : Nat) (k0 x y : Int32) : Met l yX5_reckon wsX5_reckon ({ frames := 4, cells := 0, slots := 0, locals := 90 }) (va_Pc [.ref (ad 0), .int k0, .int x, .int y] (fun U => U.heap.size = sz ∧ va_P (dC, dI) vwCl (wM cI ad aK aA aB aC aM aS aF aN th ck fo n mm lv) U.heap ∧ va_K (dC, dI) vwCl [(cI, .int)] U ∧ va_D (fun _ => True) (wM cI ad aK aA aB aC aM aS aF aN th ck fo n mm lv))) (va_Qi (fun r u => (¬ pr_ok k0 x y ∧ r = 0 ∧ u = 1) ∨ (pr_ok k0 x y ∧ r = pm_op k0 x y ∧ u = 0)) (fun (u : Int32) t9 => va_P (dC, dI) vwCl (wM cI ad aK aA aB aC aM aS aF aN u ck fo n mm lv) t9.heap ∧ va_K (dC, dI) vwCl [(cI, .int)] t9 ∧ va_D (va_A (wM cI ad aK aA aB aC aM aS aF aN th ck fo n mm lv) sz) (wM cI ad aK aA aB aC aM aS aF aN u ck fo n mm lv)) (va_A (wM cI ad aK aA aB aC aM aS aF aN th ck fo n mm lv) sz)) 0 0 (va_A (wM cI ad aK aA aB aC aM aS aF aN th ck fo n mm lv) sz) := by
  refine Met.ofW (cc := cX5_reckon) (maxL := 4) (ret := (some .int)) (by decide) rfl ?_
  intro p e s m args below meth c s₁ B hml hv
  obtain ⟨rfl, hsz, hP, hK, hD0⟩ := hv
  subst hsz
  have hx := B.exec
  have hb := B.bytes
  have hr := B.returns
  have hts := atoms_spec (ws := wsX5_reckon) B.pre
  have hown : s.vm.findClass RX5 = some m.cls := findClass_of_methodNamed B.named
  have hlocks := B.notSynchronized
  have hl := lv_entry ([.ref (ad 0), .int k0, .int x, .int y]) (n := 4) (Nat.le_of_ble_eq_true rfl)
  rw [lg_entry_eq]
  generalize (lg_sl ([.ref (ad 0), .int k0, .int x, .int y]) ++ List.replicate (4 - (lg_sl ([.ref (ad 0), .int k0, .int x, .int y])).length) Slot.unset).toArray = ls at hl ⊢
  have hl : lv_has ls 4 [(0, .ref (ad 0)), (1, .int k0), (2, .int x), (3, .int y)] := hl
  have hD := hD0.self (sz := s.heap.size)
  generalize hAe : va_A (wM cI ad aK aA aB aC aM aS aF aN th ck fo n mm lv) s.heap.size = A9 at hD ⊢
  have hA : ∀ q : Nat, s.heap.size ≤ q → A9 q := fun q h => by rw [← hAe]; exact Or.inr h
  have hS : va_S A9 s.heap s.heap [] := va_S.rf
  refine lv_aload_n hx hb dX5_reckon_0 rfl (lv_at hl 0 rfl) ?_
  refine lv_iload_n hx hb dX5_reckon_1 rfl (lv_at hl 1 rfl) ?_
  refine lv_iconst (v := 2) hx hb dX5_reckon_2 (by decide) ?_
  refine lv_icmp_lt (tgt := 36) hx hb dX5_reckon_3 (by decide) (fun h1 => ?_) (fun h1 => ?_)
  · skip
    refine lv_iconst (v := 1) hx hb dX5_reckon_36 (by decide) ?_
    refine lv_goto (tgt := 41) hx hb dX5_reckon_37 (by decide) ?_
    refine va_put (D := (dC, dI)) (ci := 3) (v := .int 1) (ty := .int) (C := RX5) (T := TX5) (N := 14) hx hb hts (fun w h => List.mem_cons_of_mem _ (wf_X5 w h)) tyX5 tyX5_ok nmX5 hown hK hP hD hS 0 rfl rfl 0 (by decide) (hts _ (List.mem_cons_of_mem _ wm_fl_X5_34)) (fun _ h9 => h9) rfl (by decide +kernel) rfl rfl (Nat.le_of_ble_eq_true rfl) dX5_reckon_41 (fun H locs hP hD hS => ?_)
    have hP : va_P (dC, dI) vwCl [(ad 0, .inr (3, [.int 1, .int (nI n), .ref (ad 1), .ref (ad 2), .ref (ad 3), .ref (ad 4), .int (nI mm), .ref (ad 5), .int (nI lv), .ref (ad 6), .int ck, .int fo, .ref (ad 7), .ref (ad 8)])), (ad 1, .inl (cI, 12, .inl aK)), (ad 2, .inl (cI, 12, .inl aA)), (ad 3, .inl (cI, 12, .inl aB)), (ad 4, .inl (cI, 12, .inl aC)), (ad 5, .inl (cI, 20, .inl aM)), (ad 6, .inl (cI, 6, .inl aS)), (ad 7, .inl (cI, 2, .inl aF)), (ad 8, .inl (cI, 12, .inl aN))] H := hP
    have hD : va_D A9 [(ad 0, .inr (3, [.int 1, .int (nI n), .ref (ad 1), .ref (ad 2), .ref (ad 3), .ref (ad 4), .int (nI mm), .ref (ad 5), .int (nI lv), .ref (ad 6), .int ck, .int fo, .ref (ad 7), .ref (ad 8)])), (ad 1, .inl (cI, 12, .inl aK)), (ad 2, .inl (cI, 12, .inl aA)), (ad 3, .inl (cI, 12, .inl aB)), (ad 4, .inl (cI, 12, .inl aC)), (ad 5, .inl (cI, 20, .inl aM)), (ad 6, .inl (cI, 6, .inl aS)), (ad 7, .inl (cI, 2, .inl aF)), (ad 8, .inl (cI, 12, .inl aN))] := hD
    refine lv_aload_n hx hb dX5_reckon_44 rfl (lv_at hl 0 rfl) ?_
    refine va_get (D := (dC, dI)) (ci := 3) (v := .int 1) (C := RX5) (T := TX5) (N := 14) hx hb hts (fun w h => List.mem_cons_of_mem _ (wf_X5 w h)) hown hK hP 0 rfl rfl 0 (by decide) (hts _ (List.mem_cons_of_mem _ wm_fl_X5_34)) (fun _ h9 => h9) rfl dX5_reckon_45 ?_
    refine lv_if_le (tgt := 55) hx hb dX5_reckon_48 (by decide) (fun h2 => absurd h2 (by decide)) (fun _ => ?_)
    refine lv_iconst (v := 0) hx hb dX5_reckon_51 (by decide) ?_
    refine lv_goto (tgt := 61) hx hb dX5_reckon_52 (by decide) ?_
    exact W.iret (v := 0) hx hb hr (fun t9 ht9 hW9 => ⟨⟨0, 1, rfl, Or.inl ⟨fun z => pr_lt2 h1 z.1, rfl, rfl⟩, by rw [ht9]; exact hP, va_K.moved hW9.alike hK, hD⟩, hS.F ht9⟩) hS.2.2 dX5_reckon_61
  · skip
    refine lv_iload_n hx hb dX5_reckon_6 rfl (lv_at hl 1 rfl) ?_
    refine lv_bipush (v := 16) hx hb dX5_reckon_7 (by decide) ?_
    refine lv_icmp_gt (tgt := 36) hx hb dX5_reckon_9 (by decide) (fun h3 => ?_) (fun h3 => ?_)
    · skip
      refine lv_iconst (v := 1) hx hb dX5_reckon_36 (by decide) ?_
      refine lv_goto (tgt := 41) hx hb dX5_reckon_37 (by decide) ?_
      refine va_put (D := (dC, dI)) (ci := 3) (v := .int 1) (ty := .int) (C := RX5) (T := TX5) (N := 14) hx hb hts (fun w h => List.mem_cons_of_mem _ (wf_X5 w h)) tyX5 tyX5_ok nmX5 hown hK hP hD hS 0 rfl rfl 0 (by decide) (hts _ (List.mem_cons_of_mem _ wm_fl_X5_34)) (fun _ h9 => h9) rfl (by decide +kernel) rfl rfl (Nat.le_of_ble_eq_true rfl) dX5_reckon_41 (fun H locs hP hD hS => ?_)
      have hP : va_P (dC, dI) vwCl [(ad 0, .inr (3, [.int 1, .int (nI n), .ref (ad 1), .ref (ad 2), .ref (ad 3), .ref (ad 4), .int (nI mm), .ref (ad 5), .int (nI lv), .ref (ad 6), .int ck, .int fo, .ref (ad 7), .ref (ad 8)])), (ad 1, .inl (cI, 12, .inl aK)), (ad 2, .inl (cI, 12, .inl aA)), (ad 3, .inl (cI, 12, .inl aB)), (ad 4, .inl (cI, 12, .inl aC)), (ad 5, .inl (cI, 20, .inl aM)), (ad 6, .inl (cI, 6, .inl aS)), (ad 7, .inl (cI, 2, .inl aF)), (ad 8, .inl (cI, 12, .inl aN))] H := hP
      have hD : va_D A9 [(ad 0, .inr (3, [.int 1, .int (nI n), .ref (ad 1), .ref (ad 2), .ref (ad 3), .ref (ad 4), .int (nI mm), .ref (ad 5), .int (nI lv), .ref (ad 6), .int ck, .int fo, .ref (ad 7), .ref (ad 8)])), (ad 1, .inl (cI, 12, .inl aK)), (ad 2, .inl (cI, 12, .inl aA)), (ad 3, .inl (cI, 12, .inl aB)), (ad 4, .inl (cI, 12, .inl aC)), (ad 5, .inl (cI, 20, .inl aM)), (ad 6, .inl (cI, 6, .inl aS)), (ad 7, .inl (cI, 2, .inl aF)), (ad 8, .inl (cI, 12, .inl aN))] := hD
      refine lv_aload_n hx hb dX5_reckon_44 rfl (lv_at hl 0 rfl) ?_
      refine va_get (D := (dC, dI)) (ci := 3) (v := .int 1) (C := RX5) (T := TX5) (N := 14) hx hb hts (fun w h => List.mem_cons_of_mem _ (wf_X5 w h)) hown hK hP 0 rfl rfl 0 (by decide) (hts _ (List.mem_cons_of_mem _ wm_fl_X5_34)) (fun _ h9 => h9) rfl dX5_reckon_45 ?_
      refine lv_if_le (tgt := 55) hx hb dX5_reckon_48 (by decide) (fun h4 => absurd h4 (by decide)) (fun _ => ?_)
      refine lv_iconst (v := 0) hx hb dX5_reckon_51 (by decide) ?_
      refine lv_goto (tgt := 61) hx hb dX5_reckon_52 (by decide) ?_
      exact W.iret (v := 0) hx hb hr (fun t9 ht9 hW9 => ⟨⟨0, 1, rfl, Or.inl ⟨fun z => pr_gt16 h3 z.1, rfl, rfl⟩, by rw [ht9]; exact hP, va_K.moved hW9.alike hK, hD⟩, hS.F ht9⟩) hS.2.2 dX5_reckon_61
    · skip
      refine lv_iload_n hx hb dX5_reckon_12 rfl (lv_at hl 1 rfl) ?_
      refine lv_bipush (v := 9) hx hb dX5_reckon_13 (by decide) ?_
      refine lv_icmp_eq (tgt := 36) hx hb dX5_reckon_15 (by decide) (fun h5 => ?_) (fun h5 => ?_)
      · skip
        refine lv_iconst (v := 1) hx hb dX5_reckon_36 (by decide) ?_
        refine lv_goto (tgt := 41) hx hb dX5_reckon_37 (by decide) ?_
        refine va_put (D := (dC, dI)) (ci := 3) (v := .int 1) (ty := .int) (C := RX5) (T := TX5) (N := 14) hx hb hts (fun w h => List.mem_cons_of_mem _ (wf_X5 w h)) tyX5 tyX5_ok nmX5 hown hK hP hD hS 0 rfl rfl 0 (by decide) (hts _ (List.mem_cons_of_mem _ wm_fl_X5_34)) (fun _ h9 => h9) rfl (by decide +kernel) rfl rfl (Nat.le_of_ble_eq_true rfl) dX5_reckon_41 (fun H locs hP hD hS => ?_)
        have hP : va_P (dC, dI) vwCl [(ad 0, .inr (3, [.int 1, .int (nI n), .ref (ad 1), .ref (ad 2), .ref (ad 3), .ref (ad 4), .int (nI mm), .ref (ad 5), .int (nI lv), .ref (ad 6), .int ck, .int fo, .ref (ad 7), .ref (ad 8)])), (ad 1, .inl (cI, 12, .inl aK)), (ad 2, .inl (cI, 12, .inl aA)), (ad 3, .inl (cI, 12, .inl aB)), (ad 4, .inl (cI, 12, .inl aC)), (ad 5, .inl (cI, 20, .inl aM)), (ad 6, .inl (cI, 6, .inl aS)), (ad 7, .inl (cI, 2, .inl aF)), (ad 8, .inl (cI, 12, .inl aN))] H := hP
        have hD : va_D A9 [(ad 0, .inr (3, [.int 1, .int (nI n), .ref (ad 1), .ref (ad 2), .ref (ad 3), .ref (ad 4), .int (nI mm), .ref (ad 5), .int (nI lv), .ref (ad 6), .int ck, .int fo, .ref (ad 7), .ref (ad 8)])), (ad 1, .inl (cI, 12, .inl aK)), (ad 2, .inl (cI, 12, .inl aA)), (ad 3, .inl (cI, 12, .inl aB)), (ad 4, .inl (cI, 12, .inl aC)), (ad 5, .inl (cI, 20, .inl aM)), (ad 6, .inl (cI, 6, .inl aS)), (ad 7, .inl (cI, 2, .inl aF)), (ad 8, .inl (cI, 12, .inl aN))] := hD
        refine lv_aload_n hx hb dX5_reckon_44 rfl (lv_at hl 0 rfl) ?_
        refine va_get (D := (dC, dI)) (ci := 3) (v := .int 1) (C := RX5) (T := TX5) (N := 14) hx hb hts (fun w h => List.mem_cons_of_mem _ (wf_X5 w h)) hown hK hP 0 rfl rfl 0 (by decide) (hts _ (List.mem_cons_of_mem _ wm_fl_X5_34)) (fun _ h9 => h9) rfl dX5_reckon_45 ?_
        refine lv_if_le (tgt := 55) hx hb dX5_reckon_48 (by decide) (fun h6 => absurd h6 (by decide)) (fun _ => ?_)
        refine lv_iconst (v := 0) hx hb dX5_reckon_51 (by decide) ?_
        refine lv_goto (tgt := 61) hx hb dX5_reckon_52 (by decide) ?_
        exact W.iret (v := 0) hx hb hr (fun t9 ht9 hW9 => ⟨⟨0, 1, rfl, Or.inl ⟨fun z => pr_eq9 h5 z.1, rfl, rfl⟩, by rw [ht9]; exact hP, va_K.moved hW9.alike hK, hD⟩, hS.F ht9⟩) hS.2.2 dX5_reckon_61
      · skip
        refine lv_iload_n hx hb dX5_reckon_18 rfl (lv_at hl 2 rfl) ?_
        refine lv_bipush (v := 32) hx hb dX5_reckon_19 (by decide) ?_
        refine vp_callSi (W.runS (As := [.int x, .int 32]) (rest := [.ref (ad 0)]) ⟨hx, hb, hml, hown, hts⟩ (ctX5_out l x 32) (va_cwS 2 hts (wA_wsS wm_ml_X5_79 wm_st_X5_out wm_in_X5 wm_cd_X5_out) rfl rfl rfl (by decide +kernel) ⟨Nat.le_of_ble_eq_true rfl, Nat.le_of_ble_eq_true rfl⟩) ⟨fun a U g mk q => q, fun U hU hW => ⟨rfl, trivial⟩⟩ rfl rfl hl.1 rfl (lv_room (Nat.le_of_ble_eq_true rfl)) dX5_reckon_21 ⟨Nat.zero_le _, Nat.zero_le _⟩) (fun r7 er7 => ?_)
        by_cases hix : ∃ i, i < 32 ∧ x = nI i
        · have er7 := er7.trans (show pm_out x 32 = 0 from by obtain ⟨i, hi, e⟩ := hix; rw [e]; exact pm_out_y (n := 32) (by omega) hi)
          subst er7
          refine lv_if_ne (tgt := 36) hx hb dX5_reckon_24 (by decide) (fun h8 => absurd (by decide) h8) (fun _ => ?_)
          refine lv_iload_n hx hb dX5_reckon_27 rfl (lv_at hl 3 rfl) ?_
          refine lv_bipush (v := 32) hx hb dX5_reckon_28 (by decide) ?_
          refine vp_callSi (W.runS (As := [.int y, .int 32]) (rest := [.ref (ad 0)]) ⟨hx, hb, hml, hown, hts⟩ (ctX5_out l y 32) (va_cwS 2 hts (wA_wsS wm_ml_X5_79 wm_st_X5_out wm_in_X5 wm_cd_X5_out) rfl rfl rfl (by decide +kernel) ⟨Nat.le_of_ble_eq_true rfl, Nat.le_of_ble_eq_true rfl⟩) ⟨fun a U g mk q => q, fun U hU hW => ⟨rfl, trivial⟩⟩ rfl rfl hl.1 rfl (lv_room (Nat.le_of_ble_eq_true rfl)) dX5_reckon_30 ⟨Nat.zero_le _, Nat.zero_le _⟩) (fun r9 er9 => ?_)
          by_cases hiy : ∃ i, i < 32 ∧ y = nI i
          · have er9 := er9.trans (show pm_out y 32 = 0 from by obtain ⟨i, hi, e⟩ := hiy; rw [e]; exact pm_out_y (n := 32) (by omega) hi)
            subst er9
            refine lv_if_eq (tgt := 40) hx hb dX5_reckon_33 (by decide) (fun _ => ?_) (fun h10 => absurd (by decide) h10)
            refine lv_iconst (v := 0) hx hb dX5_reckon_40 (by decide) ?_
            refine va_put (D := (dC, dI)) (ci := 3) (v := .int 0) (ty := .int) (C := RX5) (T := TX5) (N := 14) hx hb hts (fun w h => List.mem_cons_of_mem _ (wf_X5 w h)) tyX5 tyX5_ok nmX5 hown hK hP hD hS 0 rfl rfl 0 (by decide) (hts _ (List.mem_cons_of_mem _ wm_fl_X5_34)) (fun _ h9 => h9) rfl (by decide +kernel) rfl rfl (Nat.le_of_ble_eq_true rfl) dX5_reckon_41 (fun H locs hP hD hS => ?_)
            have hP : va_P (dC, dI) vwCl [(ad 0, .inr (3, [.int 0, .int (nI n), .ref (ad 1), .ref (ad 2), .ref (ad 3), .ref (ad 4), .int (nI mm), .ref (ad 5), .int (nI lv), .ref (ad 6), .int ck, .int fo, .ref (ad 7), .ref (ad 8)])), (ad 1, .inl (cI, 12, .inl aK)), (ad 2, .inl (cI, 12, .inl aA)), (ad 3, .inl (cI, 12, .inl aB)), (ad 4, .inl (cI, 12, .inl aC)), (ad 5, .inl (cI, 20, .inl aM)), (ad 6, .inl (cI, 6, .inl aS)), (ad 7, .inl (cI, 2, .inl aF)), (ad 8, .inl (cI, 12, .inl aN))] H := hP
            have hD : va_D A9 [(ad 0, .inr (3, [.int 0, .int (nI n), .ref (ad 1), .ref (ad 2), .ref (ad 3), .ref (ad 4), .int (nI mm), .ref (ad 5), .int (nI lv), .ref (ad 6), .int ck, .int fo, .ref (ad 7), .ref (ad 8)])), (ad 1, .inl (cI, 12, .inl aK)), (ad 2, .inl (cI, 12, .inl aA)), (ad 3, .inl (cI, 12, .inl aB)), (ad 4, .inl (cI, 12, .inl aC)), (ad 5, .inl (cI, 20, .inl aM)), (ad 6, .inl (cI, 6, .inl aS)), (ad 7, .inl (cI, 2, .inl aF)), (ad 8, .inl (cI, 12, .inl aN))] := hD
            refine lv_aload_n hx hb dX5_reckon_44 rfl (lv_at hl 0 rfl) ?_
            refine va_get (D := (dC, dI)) (ci := 3) (v := .int 0) (C := RX5) (T := TX5) (N := 14) hx hb hts (fun w h => List.mem_cons_of_mem _ (wf_X5 w h)) hown hK hP 0 rfl rfl 0 (by decide) (hts _ (List.mem_cons_of_mem _ wm_fl_X5_34)) (fun _ h9 => h9) rfl dX5_reckon_45 ?_
            refine lv_if_le (tgt := 55) hx hb dX5_reckon_48 (by decide) (fun _ => ?_) (fun h11 => absurd (by decide) h11)
            refine lv_iload_n hx hb dX5_reckon_55 rfl (lv_at hl 1 rfl) ?_
            refine lv_iload_n hx hb dX5_reckon_56 rfl (lv_at hl 2 rfl) ?_
            refine lv_iload_n hx hb dX5_reckon_57 rfl (lv_at hl 3 rfl) ?_
            refine vp_callSi (W.runS (As := [.int k0, .int x, .int y]) (rest := []) ⟨hx, hb, hml, hown, hts⟩ (ctX5_operate l k0 x y) (va_cwS 3 hts (wA_wsS wm_ml_X5_95 wm_st_X5_operate wm_in_X5 wm_cd_X5_operate) rfl rfl rfl (by decide +kernel) ⟨Nat.le_of_ble_eq_true rfl, Nat.le_of_ble_eq_true rfl⟩) ⟨fun a U g mk q => q, fun U hU hW => ⟨rfl, trivial⟩⟩ rfl rfl hl.1 rfl (lv_room (Nat.le_of_ble_eq_true rfl)) dX5_reckon_58 ⟨Nat.zero_le _, Nat.zero_le _⟩) (fun r12 er12 => ?_)
            subst er12
            exact W.iret (v := pm_op k0 x y) hx hb hr (fun t9 ht9 hW9 => ⟨⟨pm_op k0 x y, 0, rfl, Or.inr ⟨⟨pr_yes h1 h3 h5, hix, hiy⟩, rfl, rfl⟩, by rw [ht9]; exact hP, va_K.moved hW9.alike hK, hD⟩, hS.F ht9⟩) hS.2.2 dX5_reckon_61
          · have er9 := er9.trans (pm_out_no (n := 32) (by omega) hiy)
            subst er9
            refine lv_if_eq (tgt := 40) hx hb dX5_reckon_33 (by decide) (fun h13 => absurd h13 (by decide)) (fun _ => ?_)
            refine lv_iconst (v := 1) hx hb dX5_reckon_36 (by decide) ?_
            refine lv_goto (tgt := 41) hx hb dX5_reckon_37 (by decide) ?_
            refine va_put (D := (dC, dI)) (ci := 3) (v := .int 1) (ty := .int) (C := RX5) (T := TX5) (N := 14) hx hb hts (fun w h => List.mem_cons_of_mem _ (wf_X5 w h)) tyX5 tyX5_ok nmX5 hown hK hP hD hS 0 rfl rfl 0 (by decide) (hts _ (List.mem_cons_of_mem _ wm_fl_X5_34)) (fun _ h9 => h9) rfl (by decide +kernel) rfl rfl (Nat.le_of_ble_eq_true rfl) dX5_reckon_41 (fun H locs hP hD hS => ?_)
            have hP : va_P (dC, dI) vwCl [(ad 0, .inr (3, [.int 1, .int (nI n), .ref (ad 1), .ref (ad 2), .ref (ad 3), .ref (ad 4), .int (nI mm), .ref (ad 5), .int (nI lv), .ref (ad 6), .int ck, .int fo, .ref (ad 7), .ref (ad 8)])), (ad 1, .inl (cI, 12, .inl aK)), (ad 2, .inl (cI, 12, .inl aA)), (ad 3, .inl (cI, 12, .inl aB)), (ad 4, .inl (cI, 12, .inl aC)), (ad 5, .inl (cI, 20, .inl aM)), (ad 6, .inl (cI, 6, .inl aS)), (ad 7, .inl (cI, 2, .inl aF)), (ad 8, .inl (cI, 12, .inl aN))] H := hP
            have hD : va_D A9 [(ad 0, .inr (3, [.int 1, .int (nI n), .ref (ad 1), .ref (ad 2), .ref (ad 3), .ref (ad 4), .int (nI mm), .ref (ad 5), .int (nI lv), .ref (ad 6), .int ck, .int fo, .ref (ad 7), .ref (ad 8)])), (ad 1, .inl (cI, 12, .inl aK)), (ad 2, .inl (cI, 12, .inl aA)), (ad 3, .inl (cI, 12, .inl aB)), (ad 4, .inl (cI, 12, .inl aC)), (ad 5, .inl (cI, 20, .inl aM)), (ad 6, .inl (cI, 6, .inl aS)), (ad 7, .inl (cI, 2, .inl aF)), (ad 8, .inl (cI, 12, .inl aN))] := hD
            refine lv_aload_n hx hb dX5_reckon_44 rfl (lv_at hl 0 rfl) ?_
            refine va_get (D := (dC, dI)) (ci := 3) (v := .int 1) (C := RX5) (T := TX5) (N := 14) hx hb hts (fun w h => List.mem_cons_of_mem _ (wf_X5 w h)) hown hK hP 0 rfl rfl 0 (by decide) (hts _ (List.mem_cons_of_mem _ wm_fl_X5_34)) (fun _ h9 => h9) rfl dX5_reckon_45 ?_
            refine lv_if_le (tgt := 55) hx hb dX5_reckon_48 (by decide) (fun h14 => absurd h14 (by decide)) (fun _ => ?_)
            refine lv_iconst (v := 0) hx hb dX5_reckon_51 (by decide) ?_
            refine lv_goto (tgt := 61) hx hb dX5_reckon_52 (by decide) ?_
            exact W.iret (v := 0) hx hb hr (fun t9 ht9 hW9 => ⟨⟨0, 1, rfl, Or.inl ⟨fun z => hiy z.2.2, rfl, rfl⟩, by rw [ht9]; exact hP, va_K.moved hW9.alike hK, hD⟩, hS.F ht9⟩) hS.2.2 dX5_reckon_61
        · have er7 := er7.trans (pm_out_no (n := 32) (by omega) hix)
          subst er7
          refine lv_if_ne (tgt := 36) hx hb dX5_reckon_24 (by decide) (fun _ => ?_) (fun h15 => absurd h15 (by decide))
          refine lv_iconst (v := 1) hx hb dX5_reckon_36 (by decide) ?_
          refine lv_goto (tgt := 41) hx hb dX5_reckon_37 (by decide) ?_
          refine va_put (D := (dC, dI)) (ci := 3) (v := .int 1) (ty := .int) (C := RX5) (T := TX5) (N := 14) hx hb hts (fun w h => List.mem_cons_of_mem _ (wf_X5 w h)) tyX5 tyX5_ok nmX5 hown hK hP hD hS 0 rfl rfl 0 (by decide) (hts _ (List.mem_cons_of_mem _ wm_fl_X5_34)) (fun _ h9 => h9) rfl (by decide +kernel) rfl rfl (Nat.le_of_ble_eq_true rfl) dX5_reckon_41 (fun H locs hP hD hS => ?_)
          have hP : va_P (dC, dI) vwCl [(ad 0, .inr (3, [.int 1, .int (nI n), .ref (ad 1), .ref (ad 2), .ref (ad 3), .ref (ad 4), .int (nI mm), .ref (ad 5), .int (nI lv), .ref (ad 6), .int ck, .int fo, .ref (ad 7), .ref (ad 8)])), (ad 1, .inl (cI, 12, .inl aK)), (ad 2, .inl (cI, 12, .inl aA)), (ad 3, .inl (cI, 12, .inl aB)), (ad 4, .inl (cI, 12, .inl aC)), (ad 5, .inl (cI, 20, .inl aM)), (ad 6, .inl (cI, 6, .inl aS)), (ad 7, .inl (cI, 2, .inl aF)), (ad 8, .inl (cI, 12, .inl aN))] H := hP
          have hD : va_D A9 [(ad 0, .inr (3, [.int 1, .int (nI n), .ref (ad 1), .ref (ad 2), .ref (ad 3), .ref (ad 4), .int (nI mm), .ref (ad 5), .int (nI lv), .ref (ad 6), .int ck, .int fo, .ref (ad 7), .ref (ad 8)])), (ad 1, .inl (cI, 12, .inl aK)), (ad 2, .inl (cI, 12, .inl aA)), (ad 3, .inl (cI, 12, .inl aB)), (ad 4, .inl (cI, 12, .inl aC)), (ad 5, .inl (cI, 20, .inl aM)), (ad 6, .inl (cI, 6, .inl aS)), (ad 7, .inl (cI, 2, .inl aF)), (ad 8, .inl (cI, 12, .inl aN))] := hD
          refine lv_aload_n hx hb dX5_reckon_44 rfl (lv_at hl 0 rfl) ?_
          refine va_get (D := (dC, dI)) (ci := 3) (v := .int 1) (C := RX5) (T := TX5) (N := 14) hx hb hts (fun w h => List.mem_cons_of_mem _ (wf_X5 w h)) hown hK hP 0 rfl rfl 0 (by decide) (hts _ (List.mem_cons_of_mem _ wm_fl_X5_34)) (fun _ h9 => h9) rfl dX5_reckon_45 ?_
          refine lv_if_le (tgt := 55) hx hb dX5_reckon_48 (by decide) (fun h16 => absurd h16 (by decide)) (fun _ => ?_)
          refine lv_iconst (v := 0) hx hb dX5_reckon_51 (by decide) ?_
          refine lv_goto (tgt := 61) hx hb dX5_reckon_52 (by decide) ?_
          exact W.iret (v := 0) hx hb hr (fun t9 ht9 hW9 => ⟨⟨0, 1, rfl, Or.inl ⟨fun z => hix z.2.1, rfl, rfl⟩, by rw [ht9]; exact hP, va_K.moved hW9.alike hK, hD⟩, hS.F ht9⟩) hS.2.2 dX5_reckon_61
end MD2
