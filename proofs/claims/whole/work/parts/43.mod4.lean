theorem pm_ck_y {k a b c : Nat → Nat} {n : Nat} {cm : Nat → Nat} {m r i : Nat} {w : Nat → Int32} (h : pm_all cm (pv_ev k a b c (nI (i / 32)) (nI (i % 32)) w n) m = true) : pm_ck k a b c n cm m (r + 1) i w = (some i, pv_ev k a b c (nI (i / 32)) (nI (i % 32)) w n) := by
  conv => lhs; unfold pm_ck
  rw [if_pos h]
theorem pm_ck_n {k a b c : Nat → Nat} {n : Nat} {cm : Nat → Nat} {m r i : Nat} {w : Nat → Int32} (h : pm_all cm (pv_ev k a b c (nI (i / 32)) (nI (i % 32)) w n) m = false) : pm_ck k a b c n cm m (r + 1) i w = pm_ck k a b c n cm m r (i + 1) (pv_ev k a b c (nI (i / 32)) (nI (i % 32)) w n) := by
  conv => lhs; unfold pm_ck
  rw [if_neg (by rw [h]; decide)]
section MD4
variable (l : Launch) (dC : Nat → ClassId) (dI : Nat → Nat → Nat) (cI : ClassId) (ad : Nat → Nat) (aK aA aB aC aM aS aF aN : Nat → Int32) (th ck fo : Int32) (n mm lv : Nat)
set_option maxHeartbeats 4000000 in
set_option maxRecDepth 100000 in
theorem ctX5_check (sz : Nat) (hn : n ≤ 12) (fk fa fb fc : Nat → Nat) (hk : ∀ t, t < n → aK t = nI (fk t)) (ha : ∀ t, t < n → aA t = nI (fa t)) (hb2 : ∀ t, t < n → pv_s2 (fk t) ≠ 0 → aB t = nI (fb t)) (hc2 : ∀ t, t < n → pv_s3 (fk t) ≠ 0 → aC t = nI (fc t)) (hT : pv_TI fk fa fb fc n) (hm : mm ≤ 20) (cm : Nat → Nat) (hcm : ∀ i, i < mm → aM i = nI (cm i)) (hc12 : ∀ i, i < mm → cm i < 12) : Met l yX5_check wsX5_check ({ frames := 5, cells := 0, slots := 0, locals := 115 }) (va_Pc [.ref (ad 0)] (fun U => U.heap.size = sz ∧ va_P (dC, dI) vwCl (wM cI ad aK aA aB aC aM aS aF aN th ck fo n mm lv) U.heap ∧ va_K (dC, dI) vwCl [(cI, .int)] U ∧ va_D (fun _ => True) (wM cI ad aK aA aB aC aM aS aF aN th ck fo n mm lv))) (va_Qi (fun r u => r = u.1 ∧ ((u.1 = 1 ∧ ∃ i0, (pm_ck fk fa fb fc n cm mm 1024 0 aN).1 = some i0 ∧ i0 < 1024 ∧ u.2.1 0 = nI (i0 / 32) ∧ u.2.1 1 = nI (i0 % 32)) ∨ (u.1 = 0 ∧ (pm_ck fk fa fb fc n cm mm 1024 0 aN).1 = none))) (fun (u : Int32 × (Nat → Int32) × (Nat → Int32)) t9 => va_P (dC, dI) vwCl (wM cI ad aK aA aB aC aM aS (u.2.1) (u.2.2) 0 (ck + 1) (u.1) n mm lv) t9.heap ∧ va_K (dC, dI) vwCl [(cI, .int)] t9 ∧ va_D (va_A (wM cI ad aK aA aB aC aM aS aF aN th ck fo n mm lv) sz) (wM cI ad aK aA aB aC aM aS (u.2.1) (u.2.2) 0 (ck + 1) (u.1) n mm lv)) (va_A (wM cI ad aK aA aB aC aM aS aF aN th ck fo n mm lv) sz)) 0 0 (va_A (wM cI ad aK aA aB aC aM aS aF aN th ck fo n mm lv) sz) := by
  refine Met.ofW (cc := cX5_check) (maxL := 2) (ret := (some .boolean)) (by decide) rfl ?_
  intro p e s m args below meth c s₁ B hml hv
  obtain ⟨rfl, hsz, hP, hK, hD0⟩ := hv
  subst hsz
  have hx := B.exec
  have hb := B.bytes
  have hr := B.returns
  have hts := atoms_spec (ws := wsX5_check) B.pre
  have hown : s.vm.findClass RX5 = some m.cls := findClass_of_methodNamed B.named
  have hlocks := B.notSynchronized
  have hl := lv_entry ([.ref (ad 0)]) (n := 2) (Nat.le_of_ble_eq_true rfl)
  rw [lg_entry_eq]
  generalize (lg_sl ([.ref (ad 0)]) ++ List.replicate (2 - (lg_sl ([.ref (ad 0)])).length) Slot.unset).toArray = ls at hl ⊢
  have hl : lv_has ls 2 [(0, .ref (ad 0))] := hl
  have hD := hD0.self (sz := s.heap.size)
  generalize hAe : va_A (wM cI ad aK aA aB aC aM aS aF aN th ck fo n mm lv) s.heap.size = A9 at hD ⊢
  have hA : ∀ q : Nat, s.heap.size ≤ q → A9 q := fun q h => by rw [← hAe]; exact Or.inr h
  have hS : va_S A9 s.heap s.heap [] := va_S.rf
  refine lv_aload_n hx hb dX5_check_0 rfl (lv_at hl 0 rfl) ?_
  refine lv_iconst (v := 0) hx hb dX5_check_1 (by decide) ?_
  refine va_put (D := (dC, dI)) (ci := 3) (v := .int 0) (ty := .int) (C := RX5) (T := TX5) (N := 14) hx hb hts (fun w h => List.mem_cons_of_mem _ (wf_X5 w h)) tyX5 tyX5_ok nmX5 hown hK hP hD hS 0 rfl rfl 0 (by decide) (hts _ (List.mem_cons_of_mem _ wm_fl_X5_34)) (fun _ h9 => h9) rfl (by decide +kernel) rfl rfl (Nat.le_of_ble_eq_true rfl) dX5_check_2 (fun H locs hP hD hS => ?_)
  have hP : va_P (dC, dI) vwCl [(ad 0, .inr (3, [.int 0, .int (nI n), .ref (ad 1), .ref (ad 2), .ref (ad 3), .ref (ad 4), .int (nI mm), .ref (ad 5), .int (nI lv), .ref (ad 6), .int ck, .int fo, .ref (ad 7), .ref (ad 8)])), (ad 1, .inl (cI, 12, .inl aK)), (ad 2, .inl (cI, 12, .inl aA)), (ad 3, .inl (cI, 12, .inl aB)), (ad 4, .inl (cI, 12, .inl aC)), (ad 5, .inl (cI, 20, .inl aM)), (ad 6, .inl (cI, 6, .inl aS)), (ad 7, .inl (cI, 2, .inl aF)), (ad 8, .inl (cI, 12, .inl aN))] H := hP
  have hD : va_D A9 [(ad 0, .inr (3, [.int 0, .int (nI n), .ref (ad 1), .ref (ad 2), .ref (ad 3), .ref (ad 4), .int (nI mm), .ref (ad 5), .int (nI lv), .ref (ad 6), .int ck, .int fo, .ref (ad 7), .ref (ad 8)])), (ad 1, .inl (cI, 12, .inl aK)), (ad 2, .inl (cI, 12, .inl aA)), (ad 3, .inl (cI, 12, .inl aB)), (ad 4, .inl (cI, 12, .inl aC)), (ad 5, .inl (cI, 20, .inl aM)), (ad 6, .inl (cI, 6, .inl aS)), (ad 7, .inl (cI, 2, .inl aF)), (ad 8, .inl (cI, 12, .inl aN))] := hD
  refine lv_aload_n hx hb dX5_check_5 rfl (lv_at hl 0 rfl) ?_
  refine lv_dup hx hb dX5_check_6 rfl ?_
  refine va_get (D := (dC, dI)) (ci := 3) (v := .int ck) (C := RX5) (T := TX5) (N := 14) hx hb hts (fun w h => List.mem_cons_of_mem _ (wf_X5 w h)) hown hK hP 0 rfl rfl 10 (by decide) (hts _ (List.mem_cons_of_mem _ wm_fl_X5_105)) (fun _ h9 => h9) rfl dX5_check_7 ?_
  refine lv_iconst (v := 1) hx hb dX5_check_10 (by decide) ?_
  refine lv_iadd hx hb dX5_check_11 ?_
  refine va_put (D := (dC, dI)) (ci := 3) (v := .int (ck + 1)) (ty := .int) (C := RX5) (T := TX5) (N := 14) hx hb hts (fun w h => List.mem_cons_of_mem _ (wf_X5 w h)) tyX5 tyX5_ok nmX5 hown hK hP hD hS 0 rfl rfl 10 (by decide) (hts _ (List.mem_cons_of_mem _ wm_fl_X5_105)) (fun _ h9 => h9) rfl (by decide +kernel) rfl rfl (Nat.le_of_ble_eq_true rfl) dX5_check_12 (fun H locs hP hD hS => ?_)
  have hP : va_P (dC, dI) vwCl [(ad 0, .inr (3, [.int 0, .int (nI n), .ref (ad 1), .ref (ad 2), .ref (ad 3), .ref (ad 4), .int (nI mm), .ref (ad 5), .int (nI lv), .ref (ad 6), .int (ck + 1), .int fo, .ref (ad 7), .ref (ad 8)])), (ad 1, .inl (cI, 12, .inl aK)), (ad 2, .inl (cI, 12, .inl aA)), (ad 3, .inl (cI, 12, .inl aB)), (ad 4, .inl (cI, 12, .inl aC)), (ad 5, .inl (cI, 20, .inl aM)), (ad 6, .inl (cI, 6, .inl aS)), (ad 7, .inl (cI, 2, .inl aF)), (ad 8, .inl (cI, 12, .inl aN))] H := hP
  have hD : va_D A9 [(ad 0, .inr (3, [.int 0, .int (nI n), .ref (ad 1), .ref (ad 2), .ref (ad 3), .ref (ad 4), .int (nI mm), .ref (ad 5), .int (nI lv), .ref (ad 6), .int (ck + 1), .int fo, .ref (ad 7), .ref (ad 8)])), (ad 1, .inl (cI, 12, .inl aK)), (ad 2, .inl (cI, 12, .inl aA)), (ad 3, .inl (cI, 12, .inl aB)), (ad 4, .inl (cI, 12, .inl aC)), (ad 5, .inl (cI, 20, .inl aM)), (ad 6, .inl (cI, 6, .inl aS)), (ad 7, .inl (cI, 2, .inl aF)), (ad 8, .inl (cI, 12, .inl aN))] := hD
  refine lv_aload_n hx hb dX5_check_15 rfl (lv_at hl 0 rfl) ?_
  refine lv_iconst (v := 0) hx hb dX5_check_16 (by decide) ?_
  refine va_put (D := (dC, dI)) (ci := 3) (v := .int 0) (ty := .boolean) (C := RX5) (T := TX5) (N := 14) hx hb hts (fun w h => List.mem_cons_of_mem _ (wf_X5 w h)) tyX5 tyX5_ok nmX5 hown hK hP hD hS 0 rfl rfl 11 (by decide) (hts _ (List.mem_cons_of_mem _ wm_fl_X5_108)) (fun _ h9 => h9) rfl (by decide +kernel) rfl rfl (Nat.le_of_ble_eq_true rfl) dX5_check_17 (fun H locs hP hD hS => ?_)
  have hP : va_P (dC, dI) vwCl [(ad 0, .inr (3, [.int 0, .int (nI n), .ref (ad 1), .ref (ad 2), .ref (ad 3), .ref (ad 4), .int (nI mm), .ref (ad 5), .int (nI lv), .ref (ad 6), .int (ck + 1), .int 0, .ref (ad 7), .ref (ad 8)])), (ad 1, .inl (cI, 12, .inl aK)), (ad 2, .inl (cI, 12, .inl aA)), (ad 3, .inl (cI, 12, .inl aB)), (ad 4, .inl (cI, 12, .inl aC)), (ad 5, .inl (cI, 20, .inl aM)), (ad 6, .inl (cI, 6, .inl aS)), (ad 7, .inl (cI, 2, .inl aF)), (ad 8, .inl (cI, 12, .inl aN))] H := hP
  have hD : va_D A9 [(ad 0, .inr (3, [.int 0, .int (nI n), .ref (ad 1), .ref (ad 2), .ref (ad 3), .ref (ad 4), .int (nI mm), .ref (ad 5), .int (nI lv), .ref (ad 6), .int (ck + 1), .int 0, .ref (ad 7), .ref (ad 8)])), (ad 1, .inl (cI, 12, .inl aK)), (ad 2, .inl (cI, 12, .inl aA)), (ad 3, .inl (cI, 12, .inl aB)), (ad 4, .inl (cI, 12, .inl aC)), (ad 5, .inl (cI, 20, .inl aM)), (ad 6, .inl (cI, 6, .inl aS)), (ad 7, .inl (cI, 2, .inl aF)), (ad 8, .inl (cI, 12, .inl aN))] := hD
  refine lv_iconst (v := 0) hx hb dX5_check_20 (by decide) ?_
  refine lv_istore_n (lv' := [(1, .int 0), (0, .ref (ad 0))]) hx hb dX5_check_21 rfl hl (by decide) rfl (fun ls hl => ?_)
  have hl : lv_has ls 2 [(1, .int (nI 0)), (0, .ref (ad 0))] := lv_sub hl [0, 1] rfl
  refine xw_loop (pc := 22) (fun (z : Nat × (Nat → Int32) × (Nat → Int32) × Bool) => 1024 - z.1) (fun (z : Nat × (Nat → Int32) × (Nat → Int32) × Bool) ls H9 locs9 => (z.1 ≤ 1024 ∧ ((z.2.2.2 = false ∧ pm_ck fk fa fb fc n cm mm (1024 - z.1) z.1 z.2.2.1 = pm_ck fk fa fb fc n cm mm 1024 0 aN) ∨ (z.2.2.2 = true ∧ ∃ i0, (pm_ck fk fa fb fc n cm mm 1024 0 aN).1 = some i0 ∧ i0 < 1024 ∧ z.2.1 0 = nI (i0 / 32) ∧ z.2.1 1 = nI (i0 % 32)))) ∧ va_P (dC, dI) vwCl [(ad 0, .inr (3, [.int 0, .int (nI n), .ref (ad 1), .ref (ad 2), .ref (ad 3), .ref (ad 4), .int (nI mm), .ref (ad 5), .int (nI lv), .ref (ad 6), .int (ck + 1), .int (pm_bi z.2.2.2), .ref (ad 7), .ref (ad 8)])), (ad 1, .inl (cI, 12, .inl aK)), (ad 2, .inl (cI, 12, .inl aA)), (ad 3, .inl (cI, 12, .inl aB)), (ad 4, .inl (cI, 12, .inl aC)), (ad 5, .inl (cI, 20, .inl aM)), (ad 6, .inl (cI, 6, .inl aS)), (ad 7, .inl (cI, 2, .inl (z.2.1))), (ad 8, .inl (cI, 12, .inl (z.2.2.1)))] H9 ∧ va_D A9 [(ad 0, .inr (3, [.int 0, .int (nI n), .ref (ad 1), .ref (ad 2), .ref (ad 3), .ref (ad 4), .int (nI mm), .ref (ad 5), .int (nI lv), .ref (ad 6), .int (ck + 1), .int (pm_bi z.2.2.2), .ref (ad 7), .ref (ad 8)])), (ad 1, .inl (cI, 12, .inl aK)), (ad 2, .inl (cI, 12, .inl aA)), (ad 3, .inl (cI, 12, .inl aB)), (ad 4, .inl (cI, 12, .inl aC)), (ad 5, .inl (cI, 20, .inl aM)), (ad 6, .inl (cI, 6, .inl aS)), (ad 7, .inl (cI, 2, .inl (z.2.1))), (ad 8, .inl (cI, 12, .inl (z.2.2.1)))] ∧ va_S A9 s.heap H9 locs9 ∧ lv_has ls 2 [(1, .int (nI z.1)), (0, .ref (ad 0))]) ?_ (0, aF, aN, false) ls _ _ ⟨⟨Nat.zero_le _, Or.inl ⟨rfl, rfl⟩⟩, hP, hD, hS, hl⟩
  clear hP hD hS hl
  rintro ⟨i, F, w, b⟩ ls H locs ⟨⟨hi, hinv⟩, hP, hD, hS, hl⟩ ih
  have hi : i ≤ 1024 := hi
  have hl : lv_has ls 2 [(1, .int (nI i)), (0, .ref (ad 0))] := hl
  rcases hinv with ⟨eb, hck⟩ | ⟨eb, i0, hq1, hq2, hq3, hq4⟩
  · have eb : b = false := eb
    subst eb
    have hP : va_P (dC, dI) vwCl [(ad 0, .inr (3, [.int 0, .int (nI n), .ref (ad 1), .ref (ad 2), .ref (ad 3), .ref (ad 4), .int (nI mm), .ref (ad 5), .int (nI lv), .ref (ad 6), .int (ck + 1), .int 0, .ref (ad 7), .ref (ad 8)])), (ad 1, .inl (cI, 12, .inl aK)), (ad 2, .inl (cI, 12, .inl aA)), (ad 3, .inl (cI, 12, .inl aB)), (ad 4, .inl (cI, 12, .inl aC)), (ad 5, .inl (cI, 20, .inl aM)), (ad 6, .inl (cI, 6, .inl aS)), (ad 7, .inl (cI, 2, .inl F)), (ad 8, .inl (cI, 12, .inl w))] H := hP
    have hD : va_D A9 [(ad 0, .inr (3, [.int 0, .int (nI n), .ref (ad 1), .ref (ad 2), .ref (ad 3), .ref (ad 4), .int (nI mm), .ref (ad 5), .int (nI lv), .ref (ad 6), .int (ck + 1), .int 0, .ref (ad 7), .ref (ad 8)])), (ad 1, .inl (cI, 12, .inl aK)), (ad 2, .inl (cI, 12, .inl aA)), (ad 3, .inl (cI, 12, .inl aB)), (ad 4, .inl (cI, 12, .inl aC)), (ad 5, .inl (cI, 20, .inl aM)), (ad 6, .inl (cI, 6, .inl aS)), (ad 7, .inl (cI, 2, .inl F)), (ad 8, .inl (cI, 12, .inl w))] := hD
    have hck : pm_ck fk fa fb fc n cm mm (1024 - i) i w = pm_ck fk fa fb fc n cm mm 1024 0 aN := hck
    refine lv_iload_n hx hb dX5_check_22 rfl (lv_at hl 0 rfl) ?_
    refine lv_sipush (v := nI 1024) hx hb dX5_check_23 (by decide) ?_
    refine lv_icmp_ge (tgt := 82) hx hb dX5_check_26 (by decide) (fun h1 => ?_) (fun h1 => ?_)
    · skip
      have h1 : 1024 ≤ i := (nI_leI (a := 1024) (b := i) (by omega) (by omega)).mp h1
      refine lv_aload_n hx hb dX5_check_82 rfl (lv_at hl 1 rfl) ?_
      refine va_get (D := (dC, dI)) (ci := 3) (v := .int 0) (C := RX5) (T := TX5) (N := 14) hx hb hts (fun w h => List.mem_cons_of_mem _ (wf_X5 w h)) hown hK hP 0 rfl rfl 11 (by decide) (hts _ (List.mem_cons_of_mem _ wm_fl_X5_108)) (fun _ h9 => h9) rfl dX5_check_83 ?_
      have ei : i = 1024 := by omega
      have ev : (pm_ck fk fa fb fc n cm mm 1024 0 aN).1 = none := by rw [← hck, ei]; rfl
      exact W.zret (v := 0) hx hb hr (rfl) (fun t9 ht9 hW9 => ⟨⟨0, (0, F, w), rfl, ⟨rfl, Or.inr ⟨rfl, ev⟩⟩, by rw [ht9]; exact hP, va_K.moved hW9.alike hK, hD⟩, hS.F ht9⟩) hS.2.2 dX5_check_86
    · skip
      have h1 : ¬ 1024 ≤ i := fun z => h1 ((nI_leI (a := 1024) (b := i) (by omega) (by omega)).mpr z)
      refine lv_aload_n hx hb dX5_check_29 rfl (lv_at hl 1 rfl) ?_
      refine va_get (D := (dC, dI)) (ci := 3) (v := .int 0) (C := RX5) (T := TX5) (N := 14) hx hb hts (fun w h => List.mem_cons_of_mem _ (wf_X5 w h)) hown hK hP 0 rfl rfl 11 (by decide) (hts _ (List.mem_cons_of_mem _ wm_fl_X5_108)) (fun _ h9 => h9) rfl dX5_check_30 ?_
      refine lv_if_ne (tgt := 82) hx hb dX5_check_33 (by decide) (fun h2 => absurd (by decide) h2) (fun _ => ?_)
      refine lv_aload_n hx hb dX5_check_36 rfl (lv_at hl 1 rfl) ?_
      refine lv_iload_n hx hb dX5_check_37 rfl (lv_at hl 0 rfl) ?_
      refine lv_bipush (v := nI 32) hx hb dX5_check_38 (by decide) ?_
      refine lv_idiv hx hb dX5_check_40 (by decide) ?_
      refine lv_topi (fun y9 e9 => ?_)
      rw [pk_div (by omega) (by omega) (by omega)] at e9
      subst e9
      refine lv_iload_n hx hb dX5_check_41 rfl (lv_at hl 0 rfl) ?_
      refine lv_bipush (v := nI 32) hx hb dX5_check_42 (by decide) ?_
      refine lv_irem hx hb dX5_check_44 (by decide) ?_
      refine lv_topi (fun y9 e9 => ?_)
      rw [pk_rem (by omega) (by omega) (by omega)] at e9
      subst e9
      have hP : va_P (dC, dI) vwCl (wM cI ad aK aA aB aC aM aS F w 0 (ck + 1) 0 n mm lv) H := hP
      have hD : va_D A9 (wM cI ad aK aA aB aC aM aS F w 0 (ck + 1) 0 n mm lv) := hD
      have hPc := hP.sub (ws' := (wM cI ad aK aA aB aC aM aS F w 0 (ck + 1) 0 n mm lv)) [0, 1, 2, 3, 4, 5, 6, 7, 8] rfl
      have hDc := hD.sub (ws' := (wM cI ad aK aA aB aC aM aS F w 0 (ck + 1) 0 n mm lv)) [0, 1, 2, 3, 4, 5, 6, 7, 8] (by decide) rfl
      have hFc := va_free (wc := (wM cI ad aK aA aB aC aM aS F w 0 (ck + 1) 0 n mm lv)) hD hS hA [0, 1, 2, 3, 4, 5, 6, 7, 8] rfl
      refine va_callv (va_runV (C := RX5) (b := ad 0) (As := [.int (nI (i / 32)), .int (nI (i % 32))]) (rest := []) ⟨hx, hb, hml, hown, hts⟩ (ctX5_reckonAll l dC dI cI ad aK aA aB aC aM aS F w 0 (ck + 1) 0 n mm lv H.size hn fk fa fb fc hk ha hb2 hc2 hT (nI (i / 32)) (nI (i % 32))) (cwV 2 hts (wA_wsV wm_ml_X5_112 wm_im_X5_reckonAll wm_se_X5_reckonAll wm_in_X5 wm_cd_X5_reckonAll) rfl rfl rfl (by decide +kernel) ⟨Nat.le_of_ble_eq_true rfl, Nat.le_of_ble_eq_true rfl⟩) ⟨fun a U g mk q => by obtain ⟨q0, q1, qP, qK, qD⟩ := q; exact ⟨q0, q1, qP, va_K.moved (u := U) (U := U.calling g mk a) (Vm.Alike.refl U.vm) qK, qD⟩, va_recv (q := (RX5, TX5, 14)) (q0 := 0) hK hP rfl rfl, fun U hU hW => ⟨rfl, by rw [hU], by rw [hU]; exact hPc, va_K.moved hW.alike hK, hDc.weaken (fun _ _ _ _ => trivial)⟩⟩ rfl rfl hl.1 rfl (lv_room (Nat.le_of_ble_eq_true rfl)) dX5_check_45 ⟨Nat.zero_le _, Nat.zero_le _⟩) hS (fun q _ h => hFc q h) hFc (fun u t8 H1 locs ht8 hvm8 er3 hB hz1 hk1 hS => ?_)
      obtain ⟨hP1, hK1, hD1⟩ := hB
      rw [ht8] at hP1
      obtain ⟨hP, hD⟩ := va_join (wr := []) (w1 := [(ad 0, .inr (3, [.int 0, .int (nI n), .ref (ad 1), .ref (ad 2), .ref (ad 3), .ref (ad 4), .int (nI mm), .ref (ad 5), .int (nI lv), .ref (ad 6), .int (ck + 1), .int 0, .ref (ad 7), .ref (ad 8)])), (ad 1, .inl (cI, 12, .inl aK)), (ad 2, .inl (cI, 12, .inl aA)), (ad 3, .inl (cI, 12, .inl aB)), (ad 4, .inl (cI, 12, .inl aC)), (ad 5, .inl (cI, 20, .inl aM)), (ad 6, .inl (cI, 6, .inl aS)), (ad 7, .inl (cI, 2, .inl F)), (ad 8, .inl (cI, 12, .inl (pv_ev fk fa fb fc (nI (i / 32)) (nI (i % 32)) w n)))]) hP hD [0, 1, 2, 3, 4, 5, 6, 7, 8] [] rfl rfl (by decide) (by decide) hk1 hFc hP1 hD1
      clear hPc hDc hFc hP1 hK1 hD1 hk1 hz1
      generalize H1 = H at hP hS ⊢
      have hP : va_P (dC, dI) vwCl [(ad 0, .inr (3, [.int 0, .int (nI n), .ref (ad 1), .ref (ad 2), .ref (ad 3), .ref (ad 4), .int (nI mm), .ref (ad 5), .int (nI lv), .ref (ad 6), .int (ck + 1), .int 0, .ref (ad 7), .ref (ad 8)])), (ad 1, .inl (cI, 12, .inl aK)), (ad 2, .inl (cI, 12, .inl aA)), (ad 3, .inl (cI, 12, .inl aB)), (ad 4, .inl (cI, 12, .inl aC)), (ad 5, .inl (cI, 20, .inl aM)), (ad 6, .inl (cI, 6, .inl aS)), (ad 7, .inl (cI, 2, .inl F)), (ad 8, .inl (cI, 12, .inl (pv_ev fk fa fb fc (nI (i / 32)) (nI (i % 32)) w n)))] H := hP
      have hD : va_D A9 [(ad 0, .inr (3, [.int 0, .int (nI n), .ref (ad 1), .ref (ad 2), .ref (ad 3), .ref (ad 4), .int (nI mm), .ref (ad 5), .int (nI lv), .ref (ad 6), .int (ck + 1), .int 0, .ref (ad 7), .ref (ad 8)])), (ad 1, .inl (cI, 12, .inl aK)), (ad 2, .inl (cI, 12, .inl aA)), (ad 3, .inl (cI, 12, .inl aB)), (ad 4, .inl (cI, 12, .inl aC)), (ad 5, .inl (cI, 20, .inl aM)), (ad 6, .inl (cI, 6, .inl aS)), (ad 7, .inl (cI, 2, .inl F)), (ad 8, .inl (cI, 12, .inl (pv_ev fk fa fb fc (nI (i / 32)) (nI (i % 32)) w n)))] := hD
      refine lv_aload_n hx hb dX5_check_48 rfl (lv_at hl 1 rfl) ?_
      refine lv_aload_n hx hb dX5_check_49 rfl (lv_at hl 1 rfl) ?_
      refine vp_callSi (W.runV (C := RX5) (b := ad 0) (As := []) (rest := [.ref (ad 0)]) ⟨hx, hb, hml, hown, hts⟩ (ctX5_allHold l dC dI cI ad aK aA aB aC aM aS F (pv_ev fk fa fb fc (nI (i / 32)) (nI (i % 32)) w n) 0 (ck + 1) 0 n mm lv hm cm hcm hc12) (cwV 0 hts (wA_wsV wm_ml_X5_116 wm_im_X5_allHold wm_se_X5_allHold wm_in_X5 wm_cd_X5_allHold) rfl rfl rfl (by decide +kernel) ⟨Nat.le_of_ble_eq_true rfl, Nat.le_of_ble_eq_true rfl⟩) ⟨fun a U g mk q => by obtain ⟨q0, qP, qK⟩ := q; exact ⟨q0, qP, va_K.moved (u := U) (U := U.calling g mk a) (Vm.Alike.refl U.vm) qK⟩, va_recv (q := (RX5, TX5, 14)) (q0 := 0) hK hP rfl rfl, fun U hU hW => ⟨rfl, by rw [hU]; exact hP, va_K.moved hW.alike hK⟩⟩ rfl rfl hl.1 rfl (lv_room (Nat.le_of_ble_eq_true rfl)) dX5_check_50 ⟨Nat.zero_le _, Nat.zero_le _⟩) (fun r4 er4 => ?_)
      rcases er4 with ⟨rfl, hall⟩ | ⟨rfl, hall⟩
      · skip
        refine va_put (D := (dC, dI)) (ci := 3) (v := .int 1) (ty := .boolean) (C := RX5) (T := TX5) (N := 14) hx hb hts (fun w h => List.mem_cons_of_mem _ (wf_X5 w h)) tyX5 tyX5_ok nmX5 hown hK hP hD hS 0 rfl rfl 11 (by decide) (hts _ (List.mem_cons_of_mem _ wm_fl_X5_108)) (fun _ h9 => h9) rfl (by decide +kernel) rfl rfl (Nat.le_of_ble_eq_true rfl) dX5_check_53 (fun H locs hP hD hS => ?_)
        have hP : va_P (dC, dI) vwCl [(ad 0, .inr (3, [.int 0, .int (nI n), .ref (ad 1), .ref (ad 2), .ref (ad 3), .ref (ad 4), .int (nI mm), .ref (ad 5), .int (nI lv), .ref (ad 6), .int (ck + 1), .int 1, .ref (ad 7), .ref (ad 8)])), (ad 1, .inl (cI, 12, .inl aK)), (ad 2, .inl (cI, 12, .inl aA)), (ad 3, .inl (cI, 12, .inl aB)), (ad 4, .inl (cI, 12, .inl aC)), (ad 5, .inl (cI, 20, .inl aM)), (ad 6, .inl (cI, 6, .inl aS)), (ad 7, .inl (cI, 2, .inl F)), (ad 8, .inl (cI, 12, .inl (pv_ev fk fa fb fc (nI (i / 32)) (nI (i % 32)) w n)))] H := hP
        have hD : va_D A9 [(ad 0, .inr (3, [.int 0, .int (nI n), .ref (ad 1), .ref (ad 2), .ref (ad 3), .ref (ad 4), .int (nI mm), .ref (ad 5), .int (nI lv), .ref (ad 6), .int (ck + 1), .int 1, .ref (ad 7), .ref (ad 8)])), (ad 1, .inl (cI, 12, .inl aK)), (ad 2, .inl (cI, 12, .inl aA)), (ad 3, .inl (cI, 12, .inl aB)), (ad 4, .inl (cI, 12, .inl aC)), (ad 5, .inl (cI, 20, .inl aM)), (ad 6, .inl (cI, 6, .inl aS)), (ad 7, .inl (cI, 2, .inl F)), (ad 8, .inl (cI, 12, .inl (pv_ev fk fa fb fc (nI (i / 32)) (nI (i % 32)) w n)))] := hD
        refine lv_aload_n hx hb dX5_check_56 rfl (lv_at hl 1 rfl) ?_
        refine va_get (D := (dC, dI)) (ci := 3) (v := .ref (ad 7)) (C := RX5) (T := TX5) (N := 14) hx hb hts (fun w h => List.mem_cons_of_mem _ (wf_X5 w h)) hown hK hP 0 rfl rfl 12 (by decide) (hts _ (List.mem_cons_of_mem _ wm_fl_X5_28)) (fun _ h9 => h9) rfl dX5_check_57 ?_
        refine lv_iconst (v := nI 0) hx hb dX5_check_60 (by decide) ?_
        refine lv_iload_n hx hb dX5_check_61 rfl (lv_at hl 0 rfl) ?_
        refine lv_bipush (v := nI 32) hx hb dX5_check_62 (by decide) ?_
        refine lv_idiv hx hb dX5_check_64 (by decide) ?_
        refine lv_topi (fun y9 e9 => ?_)
        rw [pk_div (by omega) (by omega) (by omega)] at e9
        subst e9
        refine xr_iast (t := 0) (x := nI (i / 32)) hx hb hK hP hD hS 7 0 rfl rfl (by omega) (by omega) dX5_check_65 (fun H locs hP hD hS => ?_)
        have hP : va_P (dC, dI) vwCl [(ad 0, .inr (3, [.int 0, .int (nI n), .ref (ad 1), .ref (ad 2), .ref (ad 3), .ref (ad 4), .int (nI mm), .ref (ad 5), .int (nI lv), .ref (ad 6), .int (ck + 1), .int 1, .ref (ad 7), .ref (ad 8)])), (ad 1, .inl (cI, 12, .inl aK)), (ad 2, .inl (cI, 12, .inl aA)), (ad 3, .inl (cI, 12, .inl aB)), (ad 4, .inl (cI, 12, .inl aC)), (ad 5, .inl (cI, 20, .inl aM)), (ad 6, .inl (cI, 6, .inl aS)), (ad 7, .inl (cI, 2, .inl (upd F 0 (nI (i / 32))))), (ad 8, .inl (cI, 12, .inl (pv_ev fk fa fb fc (nI (i / 32)) (nI (i % 32)) w n)))] H := hP
        have hD : va_D A9 [(ad 0, .inr (3, [.int 0, .int (nI n), .ref (ad 1), .ref (ad 2), .ref (ad 3), .ref (ad 4), .int (nI mm), .ref (ad 5), .int (nI lv), .ref (ad 6), .int (ck + 1), .int 1, .ref (ad 7), .ref (ad 8)])), (ad 1, .inl (cI, 12, .inl aK)), (ad 2, .inl (cI, 12, .inl aA)), (ad 3, .inl (cI, 12, .inl aB)), (ad 4, .inl (cI, 12, .inl aC)), (ad 5, .inl (cI, 20, .inl aM)), (ad 6, .inl (cI, 6, .inl aS)), (ad 7, .inl (cI, 2, .inl (upd F 0 (nI (i / 32))))), (ad 8, .inl (cI, 12, .inl (pv_ev fk fa fb fc (nI (i / 32)) (nI (i % 32)) w n)))] := hD
        refine lv_aload_n hx hb dX5_check_66 rfl (lv_at hl 1 rfl) ?_
        refine va_get (D := (dC, dI)) (ci := 3) (v := .ref (ad 7)) (C := RX5) (T := TX5) (N := 14) hx hb hts (fun w h => List.mem_cons_of_mem _ (wf_X5 w h)) hown hK hP 0 rfl rfl 12 (by decide) (hts _ (List.mem_cons_of_mem _ wm_fl_X5_28)) (fun _ h9 => h9) rfl dX5_check_67 ?_
        refine lv_iconst (v := nI 1) hx hb dX5_check_70 (by decide) ?_
        refine lv_iload_n hx hb dX5_check_71 rfl (lv_at hl 0 rfl) ?_
        refine lv_bipush (v := nI 32) hx hb dX5_check_72 (by decide) ?_
        refine lv_irem hx hb dX5_check_74 (by decide) ?_
        refine lv_topi (fun y9 e9 => ?_)
        rw [pk_rem (by omega) (by omega) (by omega)] at e9
        subst e9
        refine xr_iast (t := 1) (x := nI (i % 32)) hx hb hK hP hD hS 7 0 rfl rfl (by omega) (by omega) dX5_check_75 (fun H locs hP hD hS => ?_)
        have hP : va_P (dC, dI) vwCl [(ad 0, .inr (3, [.int 0, .int (nI n), .ref (ad 1), .ref (ad 2), .ref (ad 3), .ref (ad 4), .int (nI mm), .ref (ad 5), .int (nI lv), .ref (ad 6), .int (ck + 1), .int 1, .ref (ad 7), .ref (ad 8)])), (ad 1, .inl (cI, 12, .inl aK)), (ad 2, .inl (cI, 12, .inl aA)), (ad 3, .inl (cI, 12, .inl aB)), (ad 4, .inl (cI, 12, .inl aC)), (ad 5, .inl (cI, 20, .inl aM)), (ad 6, .inl (cI, 6, .inl aS)), (ad 7, .inl (cI, 2, .inl (upd (upd F 0 (nI (i / 32))) 1 (nI (i % 32))))), (ad 8, .inl (cI, 12, .inl (pv_ev fk fa fb fc (nI (i / 32)) (nI (i % 32)) w n)))] H := hP
        have hD : va_D A9 [(ad 0, .inr (3, [.int 0, .int (nI n), .ref (ad 1), .ref (ad 2), .ref (ad 3), .ref (ad 4), .int (nI mm), .ref (ad 5), .int (nI lv), .ref (ad 6), .int (ck + 1), .int 1, .ref (ad 7), .ref (ad 8)])), (ad 1, .inl (cI, 12, .inl aK)), (ad 2, .inl (cI, 12, .inl aA)), (ad 3, .inl (cI, 12, .inl aB)), (ad 4, .inl (cI, 12, .inl aC)), (ad 5, .inl (cI, 20, .inl aM)), (ad 6, .inl (cI, 6, .inl aS)), (ad 7, .inl (cI, 2, .inl (upd (upd F 0 (nI (i / 32))) 1 (nI (i % 32))))), (ad 8, .inl (cI, 12, .inl (pv_ev fk fa fb fc (nI (i / 32)) (nI (i % 32)) w n)))] := hD
        refine lv_iinc (k := 0) (v := nI (i + 1)) (lv' := [(1, .int (nI (i + 1))), (0, .ref (ad 0))]) hx hb dX5_check_76 hl rfl (nI_1 i) (by decide) rfl (fun ls hl => ?_)
        refine lv_goto (tgt := 22) hx hb dX5_check_79 (by decide) ?_
        have hl := lv_sub hl [0, 1] rfl
        have ev : (pm_ck fk fa fb fc n cm mm 1024 0 aN).1 = some i := by rw [← hck, show 1024 - i = 1024 - (i + 1) + 1 by omega, pm_ck_y hall]
        exact ih (i + 1, upd (upd F 0 (nI (i / 32))) 1 (nI (i % 32)), pv_ev fk fa fb fc (nI (i / 32)) (nI (i % 32)) w n, true) ls H locs ⟨⟨by show i + 1 ≤ 1024; omega, Or.inr ⟨rfl, i, ev, by omega, rfl, rfl⟩⟩, hP, hD, hS, hl⟩ (by show 1024 - (i + 1) < 1024 - i; omega)
      · skip
        refine va_put (D := (dC, dI)) (ci := 3) (v := .int 0) (ty := .boolean) (C := RX5) (T := TX5) (N := 14) hx hb hts (fun w h => List.mem_cons_of_mem _ (wf_X5 w h)) tyX5 tyX5_ok nmX5 hown hK hP hD hS 0 rfl rfl 11 (by decide) (hts _ (List.mem_cons_of_mem _ wm_fl_X5_108)) (fun _ h9 => h9) rfl (by decide +kernel) rfl rfl (Nat.le_of_ble_eq_true rfl) dX5_check_53 (fun H locs hP hD hS => ?_)
        have hP : va_P (dC, dI) vwCl [(ad 0, .inr (3, [.int 0, .int (nI n), .ref (ad 1), .ref (ad 2), .ref (ad 3), .ref (ad 4), .int (nI mm), .ref (ad 5), .int (nI lv), .ref (ad 6), .int (ck + 1), .int 0, .ref (ad 7), .ref (ad 8)])), (ad 1, .inl (cI, 12, .inl aK)), (ad 2, .inl (cI, 12, .inl aA)), (ad 3, .inl (cI, 12, .inl aB)), (ad 4, .inl (cI, 12, .inl aC)), (ad 5, .inl (cI, 20, .inl aM)), (ad 6, .inl (cI, 6, .inl aS)), (ad 7, .inl (cI, 2, .inl F)), (ad 8, .inl (cI, 12, .inl (pv_ev fk fa fb fc (nI (i / 32)) (nI (i % 32)) w n)))] H := hP
        have hD : va_D A9 [(ad 0, .inr (3, [.int 0, .int (nI n), .ref (ad 1), .ref (ad 2), .ref (ad 3), .ref (ad 4), .int (nI mm), .ref (ad 5), .int (nI lv), .ref (ad 6), .int (ck + 1), .int 0, .ref (ad 7), .ref (ad 8)])), (ad 1, .inl (cI, 12, .inl aK)), (ad 2, .inl (cI, 12, .inl aA)), (ad 3, .inl (cI, 12, .inl aB)), (ad 4, .inl (cI, 12, .inl aC)), (ad 5, .inl (cI, 20, .inl aM)), (ad 6, .inl (cI, 6, .inl aS)), (ad 7, .inl (cI, 2, .inl F)), (ad 8, .inl (cI, 12, .inl (pv_ev fk fa fb fc (nI (i / 32)) (nI (i % 32)) w n)))] := hD
        refine lv_aload_n hx hb dX5_check_56 rfl (lv_at hl 1 rfl) ?_
        refine va_get (D := (dC, dI)) (ci := 3) (v := .ref (ad 7)) (C := RX5) (T := TX5) (N := 14) hx hb hts (fun w h => List.mem_cons_of_mem _ (wf_X5 w h)) hown hK hP 0 rfl rfl 12 (by decide) (hts _ (List.mem_cons_of_mem _ wm_fl_X5_28)) (fun _ h9 => h9) rfl dX5_check_57 ?_
        refine lv_iconst (v := nI 0) hx hb dX5_check_60 (by decide) ?_
        refine lv_iload_n hx hb dX5_check_61 rfl (lv_at hl 0 rfl) ?_
        refine lv_bipush (v := nI 32) hx hb dX5_check_62 (by decide) ?_
        refine lv_idiv hx hb dX5_check_64 (by decide) ?_
        refine lv_topi (fun y9 e9 => ?_)
        rw [pk_div (by omega) (by omega) (by omega)] at e9
        subst e9
        refine xr_iast (t := 0) (x := nI (i / 32)) hx hb hK hP hD hS 7 0 rfl rfl (by omega) (by omega) dX5_check_65 (fun H locs hP hD hS => ?_)
        have hP : va_P (dC, dI) vwCl [(ad 0, .inr (3, [.int 0, .int (nI n), .ref (ad 1), .ref (ad 2), .ref (ad 3), .ref (ad 4), .int (nI mm), .ref (ad 5), .int (nI lv), .ref (ad 6), .int (ck + 1), .int 0, .ref (ad 7), .ref (ad 8)])), (ad 1, .inl (cI, 12, .inl aK)), (ad 2, .inl (cI, 12, .inl aA)), (ad 3, .inl (cI, 12, .inl aB)), (ad 4, .inl (cI, 12, .inl aC)), (ad 5, .inl (cI, 20, .inl aM)), (ad 6, .inl (cI, 6, .inl aS)), (ad 7, .inl (cI, 2, .inl (upd F 0 (nI (i / 32))))), (ad 8, .inl (cI, 12, .inl (pv_ev fk fa fb fc (nI (i / 32)) (nI (i % 32)) w n)))] H := hP
        have hD : va_D A9 [(ad 0, .inr (3, [.int 0, .int (nI n), .ref (ad 1), .ref (ad 2), .ref (ad 3), .ref (ad 4), .int (nI mm), .ref (ad 5), .int (nI lv), .ref (ad 6), .int (ck + 1), .int 0, .ref (ad 7), .ref (ad 8)])), (ad 1, .inl (cI, 12, .inl aK)), (ad 2, .inl (cI, 12, .inl aA)), (ad 3, .inl (cI, 12, .inl aB)), (ad 4, .inl (cI, 12, .inl aC)), (ad 5, .inl (cI, 20, .inl aM)), (ad 6, .inl (cI, 6, .inl aS)), (ad 7, .inl (cI, 2, .inl (upd F 0 (nI (i / 32))))), (ad 8, .inl (cI, 12, .inl (pv_ev fk fa fb fc (nI (i / 32)) (nI (i % 32)) w n)))] := hD
        refine lv_aload_n hx hb dX5_check_66 rfl (lv_at hl 1 rfl) ?_
        refine va_get (D := (dC, dI)) (ci := 3) (v := .ref (ad 7)) (C := RX5) (T := TX5) (N := 14) hx hb hts (fun w h => List.mem_cons_of_mem _ (wf_X5 w h)) hown hK hP 0 rfl rfl 12 (by decide) (hts _ (List.mem_cons_of_mem _ wm_fl_X5_28)) (fun _ h9 => h9) rfl dX5_check_67 ?_
        refine lv_iconst (v := nI 1) hx hb dX5_check_70 (by decide) ?_
        refine lv_iload_n hx hb dX5_check_71 rfl (lv_at hl 0 rfl) ?_
        refine lv_bipush (v := nI 32) hx hb dX5_check_72 (by decide) ?_
        refine lv_irem hx hb dX5_check_74 (by decide) ?_
        refine lv_topi (fun y9 e9 => ?_)
        rw [pk_rem (by omega) (by omega) (by omega)] at e9
        subst e9
        refine xr_iast (t := 1) (x := nI (i % 32)) hx hb hK hP hD hS 7 0 rfl rfl (by omega) (by omega) dX5_check_75 (fun H locs hP hD hS => ?_)
        have hP : va_P (dC, dI) vwCl [(ad 0, .inr (3, [.int 0, .int (nI n), .ref (ad 1), .ref (ad 2), .ref (ad 3), .ref (ad 4), .int (nI mm), .ref (ad 5), .int (nI lv), .ref (ad 6), .int (ck + 1), .int 0, .ref (ad 7), .ref (ad 8)])), (ad 1, .inl (cI, 12, .inl aK)), (ad 2, .inl (cI, 12, .inl aA)), (ad 3, .inl (cI, 12, .inl aB)), (ad 4, .inl (cI, 12, .inl aC)), (ad 5, .inl (cI, 20, .inl aM)), (ad 6, .inl (cI, 6, .inl aS)), (ad 7, .inl (cI, 2, .inl (upd (upd F 0 (nI (i / 32))) 1 (nI (i % 32))))), (ad 8, .inl (cI, 12, .inl (pv_ev fk fa fb fc (nI (i / 32)) (nI (i % 32)) w n)))] H := hP
        have hD : va_D A9 [(ad 0, .inr (3, [.int 0, .int (nI n), .ref (ad 1), .ref (ad 2), .ref (ad 3), .ref (ad 4), .int (nI mm), .ref (ad 5), .int (nI lv), .ref (ad 6), .int (ck + 1), .int 0, .ref (ad 7), .ref (ad 8)])), (ad 1, .inl (cI, 12, .inl aK)), (ad 2, .inl (cI, 12, .inl aA)), (ad 3, .inl (cI, 12, .inl aB)), (ad 4, .inl (cI, 12, .inl aC)), (ad 5, .inl (cI, 20, .inl aM)), (ad 6, .inl (cI, 6, .inl aS)), (ad 7, .inl (cI, 2, .inl (upd (upd F 0 (nI (i / 32))) 1 (nI (i % 32))))), (ad 8, .inl (cI, 12, .inl (pv_ev fk fa fb fc (nI (i / 32)) (nI (i % 32)) w n)))] := hD
        refine lv_iinc (k := 0) (v := nI (i + 1)) (lv' := [(1, .int (nI (i + 1))), (0, .ref (ad 0))]) hx hb dX5_check_76 hl rfl (nI_1 i) (by decide) rfl (fun ls hl => ?_)
        refine lv_goto (tgt := 22) hx hb dX5_check_79 (by decide) ?_
        have hl := lv_sub hl [0, 1] rfl
        have ev : pm_ck fk fa fb fc n cm mm (1024 - (i + 1)) (i + 1) (pv_ev fk fa fb fc (nI (i / 32)) (nI (i % 32)) w n) = pm_ck fk fa fb fc n cm mm 1024 0 aN := by rw [← hck, show 1024 - i = 1024 - (i + 1) + 1 by omega, pm_ck_n hall]
        exact ih (i + 1, upd (upd F 0 (nI (i / 32))) 1 (nI (i % 32)), pv_ev fk fa fb fc (nI (i / 32)) (nI (i % 32)) w n, false) ls H locs ⟨⟨by show i + 1 ≤ 1024; omega, Or.inl ⟨rfl, ev⟩⟩, hP, hD, hS, hl⟩ (by show 1024 - (i + 1) < 1024 - i; omega)
  · have eb : b = true := eb
    subst eb
    have hP : va_P (dC, dI) vwCl [(ad 0, .inr (3, [.int 0, .int (nI n), .ref (ad 1), .ref (ad 2), .ref (ad 3), .ref (ad 4), .int (nI mm), .ref (ad 5), .int (nI lv), .ref (ad 6), .int (ck + 1), .int 1, .ref (ad 7), .ref (ad 8)])), (ad 1, .inl (cI, 12, .inl aK)), (ad 2, .inl (cI, 12, .inl aA)), (ad 3, .inl (cI, 12, .inl aB)), (ad 4, .inl (cI, 12, .inl aC)), (ad 5, .inl (cI, 20, .inl aM)), (ad 6, .inl (cI, 6, .inl aS)), (ad 7, .inl (cI, 2, .inl F)), (ad 8, .inl (cI, 12, .inl w))] H := hP
    have hD : va_D A9 [(ad 0, .inr (3, [.int 0, .int (nI n), .ref (ad 1), .ref (ad 2), .ref (ad 3), .ref (ad 4), .int (nI mm), .ref (ad 5), .int (nI lv), .ref (ad 6), .int (ck + 1), .int 1, .ref (ad 7), .ref (ad 8)])), (ad 1, .inl (cI, 12, .inl aK)), (ad 2, .inl (cI, 12, .inl aA)), (ad 3, .inl (cI, 12, .inl aB)), (ad 4, .inl (cI, 12, .inl aC)), (ad 5, .inl (cI, 20, .inl aM)), (ad 6, .inl (cI, 6, .inl aS)), (ad 7, .inl (cI, 2, .inl F)), (ad 8, .inl (cI, 12, .inl w))] := hD
    refine lv_iload_n hx hb dX5_check_22 rfl (lv_at hl 0 rfl) ?_
    refine lv_sipush (v := nI 1024) hx hb dX5_check_23 (by decide) ?_
    refine lv_icmp_ge (tgt := 82) hx hb dX5_check_26 (by decide) (fun h5 => ?_) (fun h5 => ?_)
    · skip
      have h5 : 1024 ≤ i := (nI_leI (a := 1024) (b := i) (by omega) (by omega)).mp h5
      refine lv_aload_n hx hb dX5_check_82 rfl (lv_at hl 1 rfl) ?_
      refine va_get (D := (dC, dI)) (ci := 3) (v := .int 1) (C := RX5) (T := TX5) (N := 14) hx hb hts (fun w h => List.mem_cons_of_mem _ (wf_X5 w h)) hown hK hP 0 rfl rfl 11 (by decide) (hts _ (List.mem_cons_of_mem _ wm_fl_X5_108)) (fun _ h9 => h9) rfl dX5_check_83 ?_
      exact W.zret (v := 1) hx hb hr (rfl) (fun t9 ht9 hW9 => ⟨⟨1, (1, F, w), rfl, ⟨rfl, Or.inl ⟨rfl, i0, hq1, hq2, hq3, hq4⟩⟩, by rw [ht9]; exact hP, va_K.moved hW9.alike hK, hD⟩, hS.F ht9⟩) hS.2.2 dX5_check_86
    · skip
      have h5 : ¬ 1024 ≤ i := fun z => h5 ((nI_leI (a := 1024) (b := i) (by omega) (by omega)).mpr z)
      refine lv_aload_n hx hb dX5_check_29 rfl (lv_at hl 1 rfl) ?_
      refine va_get (D := (dC, dI)) (ci := 3) (v := .int 1) (C := RX5) (T := TX5) (N := 14) hx hb hts (fun w h => List.mem_cons_of_mem _ (wf_X5 w h)) hown hK hP 0 rfl rfl 11 (by decide) (hts _ (List.mem_cons_of_mem _ wm_fl_X5_108)) (fun _ h9 => h9) rfl dX5_check_30 ?_
      refine lv_if_ne (tgt := 82) hx hb dX5_check_33 (by decide) (fun _ => ?_) (fun h6 => absurd h6 (by decide))
      refine lv_aload_n hx hb dX5_check_82 rfl (lv_at hl 1 rfl) ?_
      refine va_get (D := (dC, dI)) (ci := 3) (v := .int 1) (C := RX5) (T := TX5) (N := 14) hx hb hts (fun w h => List.mem_cons_of_mem _ (wf_X5 w h)) hown hK hP 0 rfl rfl 11 (by decide) (hts _ (List.mem_cons_of_mem _ wm_fl_X5_108)) (fun _ h9 => h9) rfl dX5_check_83 ?_
      exact W.zret (v := 1) hx hb hr (rfl) (fun t9 ht9 hW9 => ⟨⟨1, (1, F, w), rfl, ⟨rfl, Or.inl ⟨rfl, i0, hq1, hq2, hq3, hq4⟩⟩, by rw [ht9]; exact hP, va_K.moved hW9.alike hK, hD⟩, hS.F ht9⟩) hS.2.2 dX5_check_86
end MD4
