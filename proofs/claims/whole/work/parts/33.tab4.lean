theorem pc_ah_0 {k a b c : Nat → Nat} {x y as cl : Int32} {t : Nat} {w : Nat → Int32} : pc_ah k a b c x y as cl 0 t w = (true, w) := rfl
theorem pc_ah_s {k a b c : Nat → Nat} {x y as cl : Int32} {r t : Nat} {w : Nat → Int32} (h : bb_t as t = false) : pc_ah k a b c x y as cl (r + 1) t w = pc_ah k a b c x y as cl r (t + 1) w := by
  conv => lhs; unfold pc_ah
  rw [if_neg (by rw [h]; decide)]
theorem pc_ah_f {k a b c : Nat → Nat} {x y as cl : Int32} {r t : Nat} {w : Nat → Int32} (h : bb_t as t = true) (h2 : bb_t cl t = true) (h3 : pc_one k a b c x y w t = 0) : pc_ah k a b c x y as cl (r + 1) t w = (false, upd w t (pc_one k a b c x y w t)) := by
  conv => lhs; unfold pc_ah
  rw [if_pos h, if_pos ⟨h2, h3⟩]
theorem pc_ah_g {k a b c : Nat → Nat} {x y as cl : Int32} {r t : Nat} {w : Nat → Int32} (h : bb_t as t = true) (h2 : ¬ (bb_t cl t = true ∧ pc_one k a b c x y w t = 0)) : pc_ah k a b c x y as cl (r + 1) t w = pc_ah k a b c x y as cl r (t + 1) (upd w t (pc_one k a b c x y w t)) := by
  conv => lhs; unfold pc_ah
  rw [if_pos h, if_neg h2]
theorem bb_yes {m : Int32} {t : Nat} (ht : t < 32) (h : ¬ m &&& ((1 : Int32) <<< (nI t &&& 31)) = 0) : bb_t m t = true := by
  cases hq : bb_t m t with
  | true => rfl
  | false => exact absurd ((bb_ask m ht).mpr hq) h
section TT4
variable (l : Launch) (dC : Nat → ClassId) (dI : Nat → Nat → Nat) (cI : ClassId) (ad : Nat → Nat) (aK aA aB aC aP aV aN : Nat → Int32) (n : Nat)
set_option maxHeartbeats 4000000 in
set_option maxRecDepth 100000 in
theorem ctX3_allHold (hn : n ≤ 12) (fk fa fb fc : Nat → Nat) (hk : ∀ t, t < n → aK t = nI (fk t)) (ha : ∀ t, t < n → aA t = nI (fa t)) (hbb : ∀ t, t < n → aB t = nI (fb t)) (hc : ∀ t, t < n → aC t = nI (fc t)) (hT : pv_TI fk fa fb fc n) (sz : Nat) (as cl x y : Int32) : Met l yX3_allHold wsX3_allHold ({ frames := 4, cells := 0, slots := 0, locals := 95 }) (va_Pc [.ref (ad 0), .int as, .int cl, .int x, .int y] (fun U => U.heap.size = sz ∧ va_P (dC, dI) vwCl (wT cI ad aK aA aB aC aP aV aN n) U.heap ∧ va_K (dC, dI) vwCl [(cI, .int)] U ∧ va_D (fun _ => True) (wT cI ad aK aA aB aC aP aV aN n))) (va_Qi (fun r u => (r = 1 ∧ (pc_ah fk fa fb fc x y as cl n 0 aN) = (true, u)) ∨ (r = 0 ∧ (pc_ah fk fa fb fc x y as cl n 0 aN) = (false, u))) (fun (u : Nat → Int32) t9 => va_P (dC, dI) vwCl (wT cI ad aK aA aB aC aP aV u n) t9.heap ∧ va_K (dC, dI) vwCl [(cI, .int)] t9 ∧ va_D (va_A (wT cI ad aK aA aB aC aP aV aN n) sz) (wT cI ad aK aA aB aC aP aV u n)) (va_A (wT cI ad aK aA aB aC aP aV aN n) sz)) 0 0 (va_A (wT cI ad aK aA aB aC aP aV aN n) sz) := by
  refine Met.ofW (cc := cX3_allHold) (maxL := 7) (ret := (some .boolean)) (by decide) rfl ?_
  intro p e s m args below meth c s₁ B hml hv
  obtain ⟨rfl, hsz, hP, hK, hD0⟩ := hv
  subst hsz
  have hx := B.exec
  have hb := B.bytes
  have hr := B.returns
  have hts := atoms_spec (ws := wsX3_allHold) B.pre
  have hown : s.vm.findClass RX3 = some m.cls := findClass_of_methodNamed B.named
  have hlocks := B.notSynchronized
  have hl := lv_entry ([.ref (ad 0), .int as, .int cl, .int x, .int y]) (n := 7) (Nat.le_of_ble_eq_true rfl)
  rw [lg_entry_eq]
  generalize (lg_sl ([.ref (ad 0), .int as, .int cl, .int x, .int y]) ++ List.replicate (7 - (lg_sl ([.ref (ad 0), .int as, .int cl, .int x, .int y])).length) Slot.unset).toArray = ls at hl ⊢
  have hl : lv_has ls 7 [(0, .ref (ad 0)), (1, .int as), (2, .int cl), (3, .int x), (4, .int y)] := hl
  have hD := hD0.self (sz := s.heap.size)
  generalize hAe : va_A (wT cI ad aK aA aB aC aP aV aN n) s.heap.size = A9 at hD ⊢
  have hA : ∀ q : Nat, s.heap.size ≤ q → A9 q := fun q h => by rw [← hAe]; exact Or.inr h
  have hS : va_S A9 s.heap s.heap [] := va_S.rf
  refine lv_iconst (v := 0) hx hb dX3_allHold_0 (by decide) ?_
  refine lv_istore (lv' := [(5, .int 0), (0, .ref (ad 0)), (1, .int as), (2, .int cl), (3, .int x), (4, .int y)]) hx hb dX3_allHold_1 hl (by decide) rfl (fun ls hl => ?_)
  have hl : lv_has ls 7 [(5, .int (nI 0)), (4, .int y), (3, .int x), (2, .int cl), (1, .int as), (0, .ref (ad 0))] := lv_sub hl [0, 5, 4, 3, 2, 1] rfl
  refine xw_loop (pc := 3) (fun (z : Nat × (Nat → Int32)) => n - z.1) (fun (z : Nat × (Nat → Int32)) ls H9 locs9 => (z.1 ≤ n ∧ pc_ah fk fa fb fc x y as cl (n - z.1) z.1 z.2 = pc_ah fk fa fb fc x y as cl n 0 aN) ∧ va_P (dC, dI) vwCl [(ad 0, .inr (1, [.ref (ad 1), .ref (ad 2), .ref (ad 3), .ref (ad 4), .ref (ad 5), .ref (ad 6), .ref (ad 7), .int (nI n)])), (ad 1, .inl (cI, 12, .inl aK)), (ad 2, .inl (cI, 12, .inl aA)), (ad 3, .inl (cI, 12, .inl aB)), (ad 4, .inl (cI, 12, .inl aC)), (ad 5, .inl (cI, 12, .inl aP)), (ad 6, .inl (cI, 2, .inl aV)), (ad 7, .inl (cI, 12, .inl (z.2)))] H9 ∧ va_D A9 [(ad 0, .inr (1, [.ref (ad 1), .ref (ad 2), .ref (ad 3), .ref (ad 4), .ref (ad 5), .ref (ad 6), .ref (ad 7), .int (nI n)])), (ad 1, .inl (cI, 12, .inl aK)), (ad 2, .inl (cI, 12, .inl aA)), (ad 3, .inl (cI, 12, .inl aB)), (ad 4, .inl (cI, 12, .inl aC)), (ad 5, .inl (cI, 12, .inl aP)), (ad 6, .inl (cI, 2, .inl aV)), (ad 7, .inl (cI, 12, .inl (z.2)))] ∧ va_S A9 s.heap H9 locs9 ∧ lv_has ls 7 [(5, .int (nI z.1)), (4, .int y), (3, .int x), (2, .int cl), (1, .int as), (0, .ref (ad 0))]) ?_ (0, aN) ls _ _ ⟨⟨Nat.zero_le _, rfl⟩, hP, hD, hS, hl⟩
  clear hP hD hS hl
  rintro ⟨t, w⟩ ls H locs ⟨⟨htn, hah⟩, hP, hD, hS, hl⟩ ih
  have htn : t ≤ n := htn
  have hah : pc_ah fk fa fb fc x y as cl (n - t) t w = pc_ah fk fa fb fc x y as cl n 0 aN := hah
  have hl : lv_has ls 7 [(5, .int (nI t)), (4, .int y), (3, .int x), (2, .int cl), (1, .int as), (0, .ref (ad 0))] := hl
  have hP : va_P (dC, dI) vwCl [(ad 0, .inr (1, [.ref (ad 1), .ref (ad 2), .ref (ad 3), .ref (ad 4), .ref (ad 5), .ref (ad 6), .ref (ad 7), .int (nI n)])), (ad 1, .inl (cI, 12, .inl aK)), (ad 2, .inl (cI, 12, .inl aA)), (ad 3, .inl (cI, 12, .inl aB)), (ad 4, .inl (cI, 12, .inl aC)), (ad 5, .inl (cI, 12, .inl aP)), (ad 6, .inl (cI, 2, .inl aV)), (ad 7, .inl (cI, 12, .inl w))] H := hP
  have hD : va_D A9 [(ad 0, .inr (1, [.ref (ad 1), .ref (ad 2), .ref (ad 3), .ref (ad 4), .ref (ad 5), .ref (ad 6), .ref (ad 7), .int (nI n)])), (ad 1, .inl (cI, 12, .inl aK)), (ad 2, .inl (cI, 12, .inl aA)), (ad 3, .inl (cI, 12, .inl aB)), (ad 4, .inl (cI, 12, .inl aC)), (ad 5, .inl (cI, 12, .inl aP)), (ad 6, .inl (cI, 2, .inl aV)), (ad 7, .inl (cI, 12, .inl w))] := hD
  refine lv_iload hx hb dX3_allHold_3 (lv_at hl 0 rfl) ?_
  refine lv_aload_n hx hb dX3_allHold_5 rfl (lv_at hl 5 rfl) ?_
  refine va_get (D := (dC, dI)) (ci := 1) (v := .int (nI n)) (C := RX3) (T := TX3) (N := 8) hx hb hts (fun w h => List.mem_cons_of_mem _ (wf_X3 w h)) hown hK hP 0 rfl rfl 7 (by decide) (hts _ (List.mem_cons_of_mem _ wm_fl_X3_33)) (fun _ h9 => h9) rfl dX3_allHold_6 ?_
  refine lv_icmp_ge (tgt := 66) hx hb dX3_allHold_9 (by decide) (fun h1 => ?_) (fun h1 => ?_)
  · skip
    have h1 : n ≤ t := (nI_leI (a := n) (b := t) (by omega) (by omega)).mp h1
    refine lv_iconst (v := 1) hx hb dX3_allHold_66 (by decide) ?_
    have etn : t = n := by omega
    have ev : pc_ah fk fa fb fc x y as cl n 0 aN = (true, w) := by rw [← hah, etn, Nat.sub_self]; rfl
    exact W.zret (v := 1) hx hb hr (rfl) (fun t9 ht9 hW9 => ⟨⟨1, w, rfl, Or.inl ⟨rfl, ev⟩, by rw [ht9]; exact hP, va_K.moved hW9.alike hK, hD⟩, hS.F ht9⟩) hS.2.2 dX3_allHold_67
  · skip
    have h1 : ¬ n ≤ t := fun z => h1 ((nI_leI (a := n) (b := t) (by omega) (by omega)).mpr z)
    refine lv_iconst (v := 1) hx hb dX3_allHold_12 (by decide) ?_
    refine lv_iload hx hb dX3_allHold_13 (lv_at hl 0 rfl) ?_
    refine lv_ishl hx hb dX3_allHold_15 ?_
    refine lv_istore (lv' := [(6, .int (1 <<< ((nI t) &&& 31))), (5, .int (nI t)), (4, .int y), (3, .int x), (2, .int cl), (1, .int as), (0, .ref (ad 0))]) hx hb dX3_allHold_16 hl (by decide) rfl (fun ls hl => ?_)
    refine lv_iload_n hx hb dX3_allHold_18 rfl (lv_at hl 5 rfl) ?_
    refine lv_iload hx hb dX3_allHold_19 (lv_at hl 0 rfl) ?_
    refine lv_iand hx hb dX3_allHold_21 ?_
    refine lv_if_eq (tgt := 60) hx hb dX3_allHold_22 (by decide) (fun h2 => ?_) (fun h2 => ?_)
    · skip
      refine lv_iinc (k := 1) (v := nI (t + 1)) (lv' := [(5, .int (nI (t + 1))), (6, .int (1 <<< ((nI t) &&& 31))), (4, .int y), (3, .int x), (2, .int cl), (1, .int as), (0, .ref (ad 0))]) hx hb dX3_allHold_60 hl rfl (nI_1 t) (by decide) rfl (fun ls hl => ?_)
      refine lv_goto (tgt := 3) hx hb dX3_allHold_63 (by decide) ?_
      have ev : pc_ah fk fa fb fc x y as cl (n - t) t w = pc_ah fk fa fb fc x y as cl (n - (t + 1)) (t + 1) (w) := by
        rw [show n - t = n - (t + 1) + 1 by omega]
        exact pc_ah_s ((bb_ask as (by omega)).mp h2)
      exact ih (t + 1, w) ls H locs ⟨⟨by show t + 1 ≤ n; omega, ev.symm.trans hah⟩, hP, hD, hS, lv_sub hl [0, 2, 3, 4, 5, 6] rfl⟩ (by show n - (t + 1) < n - t; omega)
    · skip
      refine lv_aload_n hx hb dX3_allHold_25 rfl (lv_at hl 6 rfl) ?_
      refine va_get (D := (dC, dI)) (ci := 1) (v := .ref (ad 7)) (C := RX3) (T := TX3) (N := 8) hx hb hts (fun w h => List.mem_cons_of_mem _ (wf_X3 w h)) hown hK hP 0 rfl rfl 6 (by decide) (hts _ (List.mem_cons_of_mem _ wm_fl_X3_30)) (fun _ h9 => h9) rfl dX3_allHold_26 ?_
      refine lv_iload hx hb dX3_allHold_29 (lv_at hl 1 rfl) ?_
      refine lv_aload_n hx hb dX3_allHold_31 rfl (lv_at hl 6 rfl) ?_
      refine lv_iload hx hb dX3_allHold_32 (lv_at hl 1 rfl) ?_
      refine lv_iload_n hx hb dX3_allHold_34 rfl (lv_at hl 3 rfl) ?_
      refine lv_iload hx hb dX3_allHold_35 (lv_at hl 2 rfl) ?_
      refine vp_callSi (W.runV (C := RX3) (b := ad 0) (As := [.int (nI t), .int x, .int y]) (rest := [.int (nI t), .ref (ad 7)]) ⟨hx, hb, hml, hown, hts⟩ (ctX3_workOut l dC dI cI ad aK aA aB aC aP aV w n hn fk fa fb fc hk ha hbb hc hT t (by omega) x y) (cwV 3 hts (wA_wsV wm_ml_X3_85 wm_im_X3_workOut wm_se_X3_workOut wm_in_X3 wm_cd_X3_workOut) rfl rfl rfl (by decide +kernel) ⟨Nat.le_of_ble_eq_true rfl, Nat.le_of_ble_eq_true rfl⟩) ⟨fun a U g mk q => by obtain ⟨q0, qP, qK⟩ := q; exact ⟨q0, qP, va_K.moved (u := U) (U := U.calling g mk a) (Vm.Alike.refl U.vm) qK⟩, va_recv (q := (RX3, TX3, 8)) (q0 := 0) hK hP rfl rfl, fun U hU hW => ⟨rfl, by rw [hU]; exact hP, va_K.moved hW.alike hK⟩⟩ rfl rfl hl.1 rfl (lv_room (Nat.le_of_ble_eq_true rfl)) dX3_allHold_37 ⟨Nat.zero_le _, Nat.zero_le _⟩) (fun r3 er3 => ?_)
      subst er3
      refine xr_iast (t := t) (x := pc_one fk fa fb fc x y w t) hx hb hK hP hD hS 7 0 rfl rfl (by omega) (by omega) dX3_allHold_40 (fun H locs hP hD hS => ?_)
      have hP : va_P (dC, dI) vwCl [(ad 0, .inr (1, [.ref (ad 1), .ref (ad 2), .ref (ad 3), .ref (ad 4), .ref (ad 5), .ref (ad 6), .ref (ad 7), .int (nI n)])), (ad 1, .inl (cI, 12, .inl aK)), (ad 2, .inl (cI, 12, .inl aA)), (ad 3, .inl (cI, 12, .inl aB)), (ad 4, .inl (cI, 12, .inl aC)), (ad 5, .inl (cI, 12, .inl aP)), (ad 6, .inl (cI, 2, .inl aV)), (ad 7, .inl (cI, 12, .inl (upd w t (pc_one fk fa fb fc x y w t))))] H := hP
      have hD : va_D A9 [(ad 0, .inr (1, [.ref (ad 1), .ref (ad 2), .ref (ad 3), .ref (ad 4), .ref (ad 5), .ref (ad 6), .ref (ad 7), .int (nI n)])), (ad 1, .inl (cI, 12, .inl aK)), (ad 2, .inl (cI, 12, .inl aA)), (ad 3, .inl (cI, 12, .inl aB)), (ad 4, .inl (cI, 12, .inl aC)), (ad 5, .inl (cI, 12, .inl aP)), (ad 6, .inl (cI, 2, .inl aV)), (ad 7, .inl (cI, 12, .inl (upd w t (pc_one fk fa fb fc x y w t))))] := hD
      refine lv_iload_n hx hb dX3_allHold_41 rfl (lv_at hl 4 rfl) ?_
      refine lv_iload hx hb dX3_allHold_42 (lv_at hl 0 rfl) ?_
      refine lv_iand hx hb dX3_allHold_44 ?_
      refine lv_if_eq (tgt := 60) hx hb dX3_allHold_45 (by decide) (fun h4 => ?_) (fun h4 => ?_)
      · skip
        refine lv_iinc (k := 1) (v := nI (t + 1)) (lv' := [(5, .int (nI (t + 1))), (6, .int (1 <<< ((nI t) &&& 31))), (4, .int y), (3, .int x), (2, .int cl), (1, .int as), (0, .ref (ad 0))]) hx hb dX3_allHold_60 hl rfl (nI_1 t) (by decide) rfl (fun ls hl => ?_)
        refine lv_goto (tgt := 3) hx hb dX3_allHold_63 (by decide) ?_
        have ev : pc_ah fk fa fb fc x y as cl (n - t) t w = pc_ah fk fa fb fc x y as cl (n - (t + 1)) (t + 1) (upd w t (pc_one fk fa fb fc x y w t)) := by
          rw [show n - t = n - (t + 1) + 1 by omega]
          exact pc_ah_g (bb_yes (by omega) h2) (fun z => absurd ((bb_ask cl (by omega)).mp h4) (by rw [z.1]; decide))
        exact ih (t + 1, upd w t (pc_one fk fa fb fc x y w t)) ls H locs ⟨⟨by show t + 1 ≤ n; omega, ev.symm.trans hah⟩, hP, hD, hS, lv_sub hl [0, 2, 3, 4, 5, 6] rfl⟩ (by show n - (t + 1) < n - t; omega)
      · skip
        refine lv_aload_n hx hb dX3_allHold_48 rfl (lv_at hl 6 rfl) ?_
        refine va_get (D := (dC, dI)) (ci := 1) (v := .ref (ad 7)) (C := RX3) (T := TX3) (N := 8) hx hb hts (fun w h => List.mem_cons_of_mem _ (wf_X3 w h)) hown hK hP 0 rfl rfl 6 (by decide) (hts _ (List.mem_cons_of_mem _ wm_fl_X3_30)) (fun _ h9 => h9) rfl dX3_allHold_49 ?_
        refine lv_iload hx hb dX3_allHold_52 (lv_at hl 1 rfl) ?_
        refine xr_iald (t := t) (v := pc_one fk fa fb fc x y w t) hx hb hK hP 7 0 rfl rfl (by omega) (by omega) (pk_us) dX3_allHold_54 ?_
        refine lv_if_ne (tgt := 60) hx hb dX3_allHold_55 (by decide) (fun h5 => ?_) (fun h5 => ?_)
        · skip
          refine lv_iinc (k := 1) (v := nI (t + 1)) (lv' := [(5, .int (nI (t + 1))), (6, .int (1 <<< ((nI t) &&& 31))), (4, .int y), (3, .int x), (2, .int cl), (1, .int as), (0, .ref (ad 0))]) hx hb dX3_allHold_60 hl rfl (nI_1 t) (by decide) rfl (fun ls hl => ?_)
          refine lv_goto (tgt := 3) hx hb dX3_allHold_63 (by decide) ?_
          have ev : pc_ah fk fa fb fc x y as cl (n - t) t w = pc_ah fk fa fb fc x y as cl (n - (t + 1)) (t + 1) (upd w t (pc_one fk fa fb fc x y w t)) := by
            rw [show n - t = n - (t + 1) + 1 by omega]
            exact pc_ah_g (bb_yes (by omega) h2) (fun z => h5 z.2)
          exact ih (t + 1, upd w t (pc_one fk fa fb fc x y w t)) ls H locs ⟨⟨by show t + 1 ≤ n; omega, ev.symm.trans hah⟩, hP, hD, hS, lv_sub hl [0, 2, 3, 4, 5, 6] rfl⟩ (by show n - (t + 1) < n - t; omega)
        · skip
          refine lv_iconst (v := 0) hx hb dX3_allHold_58 (by decide) ?_
          have ev : pc_ah fk fa fb fc x y as cl n 0 aN = (false, upd w t (pc_one fk fa fb fc x y w t)) := by
            rw [← hah, show n - t = n - (t + 1) + 1 by omega]
            exact pc_ah_f (bb_yes (by omega) h2) (bb_yes (by omega) h4) h5
          exact W.zret (v := 0) hx hb hr (rfl) (fun t9 ht9 hW9 => ⟨⟨0, upd w t (pc_one fk fa fb fc x y w t), rfl, Or.inr ⟨rfl, ev⟩, by rw [ht9]; exact hP, va_K.moved hW9.alike hK, hD⟩, hS.F ht9⟩) hS.2.2 dX3_allHold_59
set_option maxHeartbeats 4000000 in
set_option maxRecDepth 100000 in
theorem ctX3_answer (hn : n ≤ 12) (fk fa fb fc : Nat → Nat) (hk : ∀ t, t < n → aK t = nI (fk t)) (ha : ∀ t, t < n → aA t = nI (fa t)) (hbb : ∀ t, t < n → aB t = nI (fb t)) (hc : ∀ t, t < n → aC t = nI (fc t)) (hT : pv_TI fk fa fb fc n) (sz t : Nat) (htt : t < n) (x y : Int32) : Met l yX3_answer wsX3_answer ({ frames := 5, cells := 0, slots := 0, locals := 121 }) (va_Pc [.ref (ad 0), .int (nI t), .int x, .int y] (fun U => U.heap.size = sz ∧ va_P (dC, dI) vwCl (wT cI ad aK aA aB aC aP aV aN n) U.heap ∧ va_K (dC, dI) vwCl [(cI, .int)] U ∧ va_D (fun _ => True) (wT cI ad aK aA aB aC aP aV aN n))) (va_Qi (fun r u => r = (pc_ah fk fa fb fc x y (aP t) 0 n 0 aN).2 t ∧ u = (pc_ah fk fa fb fc x y (aP t) 0 n 0 aN).2) (fun (u : Nat → Int32) t9 => va_P (dC, dI) vwCl (wT cI ad aK aA aB aC aP aV u n) t9.heap ∧ va_K (dC, dI) vwCl [(cI, .int)] t9 ∧ va_D (va_A (wT cI ad aK aA aB aC aP aV aN n) sz) (wT cI ad aK aA aB aC aP aV u n)) (va_A (wT cI ad aK aA aB aC aP aV aN n) sz)) 0 0 (va_A (wT cI ad aK aA aB aC aP aV aN n) sz) := by
  refine Met.ofW (cc := cX3_answer) (maxL := 4) (ret := (some .int)) (by decide) rfl ?_
  intro p e s m args below meth c s₁ B hml hv
  obtain ⟨rfl, hsz, hP, hK, hD0⟩ := hv
  subst hsz
  have hx := B.exec
  have hb := B.bytes
  have hr := B.returns
  have hts := atoms_spec (ws := wsX3_answer) B.pre
  have hown : s.vm.findClass RX3 = some m.cls := findClass_of_methodNamed B.named
  have hlocks := B.notSynchronized
  have hl := lv_entry ([.ref (ad 0), .int (nI t), .int x, .int y]) (n := 4) (Nat.le_of_ble_eq_true rfl)
  rw [lg_entry_eq]
  generalize (lg_sl ([.ref (ad 0), .int (nI t), .int x, .int y]) ++ List.replicate (4 - (lg_sl ([.ref (ad 0), .int (nI t), .int x, .int y])).length) Slot.unset).toArray = ls at hl ⊢
  have hl : lv_has ls 4 [(0, .ref (ad 0)), (1, .int (nI t)), (2, .int x), (3, .int y)] := hl
  have hD := hD0.self (sz := s.heap.size)
  generalize hAe : va_A (wT cI ad aK aA aB aC aP aV aN n) s.heap.size = A9 at hD ⊢
  have hA : ∀ q : Nat, s.heap.size ≤ q → A9 q := fun q h => by rw [← hAe]; exact Or.inr h
  have hS : va_S A9 s.heap s.heap [] := va_S.rf
  refine lv_aload_n hx hb dX3_answer_0 rfl (lv_at hl 0 rfl) ?_
  refine lv_aload_n hx hb dX3_answer_1 rfl (lv_at hl 0 rfl) ?_
  refine va_get (D := (dC, dI)) (ci := 1) (v := .ref (ad 5)) (C := RX3) (T := TX3) (N := 8) hx hb hts (fun w h => List.mem_cons_of_mem _ (wf_X3 w h)) hown hK hP 0 rfl rfl 4 (by decide) (hts _ (List.mem_cons_of_mem _ wm_fl_X3_24)) (fun _ h9 => h9) rfl dX3_answer_2 ?_
  refine lv_iload_n hx hb dX3_answer_5 rfl (lv_at hl 1 rfl) ?_
  refine xr_iald (t := t) (v := aP t) hx hb hK hP 5 0 rfl rfl (by omega) (by omega) (rfl) dX3_answer_6 ?_
  refine lv_iconst (v := 0) hx hb dX3_answer_7 (by decide) ?_
  refine lv_iload_n hx hb dX3_answer_8 rfl (lv_at hl 2 rfl) ?_
  refine lv_iload_n hx hb dX3_answer_9 rfl (lv_at hl 3 rfl) ?_
  have hPc := hP.sub (ws' := (wT cI ad aK aA aB aC aP aV aN n)) [0, 1, 2, 3, 4, 5, 6, 7] rfl
  have hDc := hD.sub (ws' := (wT cI ad aK aA aB aC aP aV aN n)) [0, 1, 2, 3, 4, 5, 6, 7] (by decide) rfl
  have hFc := va_free (wc := (wT cI ad aK aA aB aC aP aV aN n)) hD hS hA [0, 1, 2, 3, 4, 5, 6, 7] rfl
  refine va_calli (va_runV (C := RX3) (b := ad 0) (As := [.int (aP t), .int 0, .int x, .int y]) (rest := []) ⟨hx, hb, hml, hown, hts⟩ (ctX3_allHold l dC dI cI ad aK aA aB aC aP aV aN n hn fk fa fb fc hk ha hbb hc hT s.heap.size (aP t) 0 x y) (cwV 4 hts (wA_wsV wm_ml_X3_89 wm_im_X3_allHold wm_se_X3_allHold wm_in_X3 wm_cd_X3_allHold) rfl rfl rfl (by decide +kernel) ⟨Nat.le_of_ble_eq_true rfl, Nat.le_of_ble_eq_true rfl⟩) ⟨fun a U g mk q => by obtain ⟨q0, q1, qP, qK, qD⟩ := q; exact ⟨q0, q1, qP, va_K.moved (u := U) (U := U.calling g mk a) (Vm.Alike.refl U.vm) qK, qD⟩, va_recv (q := (RX3, TX3, 8)) (q0 := 0) hK hP rfl rfl, fun U hU hW => ⟨rfl, by rw [hU], by rw [hU]; exact hPc, va_K.moved hW.alike hK, hDc.weaken (fun _ _ _ _ => trivial)⟩⟩ rfl rfl hl.1 rfl (lv_room (Nat.le_of_ble_eq_true rfl)) dX3_answer_10 ⟨Nat.zero_le _, Nat.zero_le _⟩) hS (fun q _ h => hFc q h) hFc (fun r1 u t8 H1 locs ht8 hvm8 er1 hB hz1 hk1 hS => ?_)
  obtain ⟨hP1, hK1, hD1⟩ := hB
  rw [ht8] at hP1
  obtain ⟨hP, hD⟩ := va_join (wr := []) (w1 := [(ad 0, .inr (1, [.ref (ad 1), .ref (ad 2), .ref (ad 3), .ref (ad 4), .ref (ad 5), .ref (ad 6), .ref (ad 7), .int (nI n)])), (ad 1, .inl (cI, 12, .inl aK)), (ad 2, .inl (cI, 12, .inl aA)), (ad 3, .inl (cI, 12, .inl aB)), (ad 4, .inl (cI, 12, .inl aC)), (ad 5, .inl (cI, 12, .inl aP)), (ad 6, .inl (cI, 2, .inl aV)), (ad 7, .inl (cI, 12, .inl u))]) hP hD [0, 1, 2, 3, 4, 5, 6, 7] [] rfl rfl (by decide) (by decide) hk1 hFc hP1 hD1
  clear hPc hDc hFc hP1 hK1 hD1 hk1 hz1
  generalize H1 = H at hP hS ⊢
  have hP : va_P (dC, dI) vwCl [(ad 0, .inr (1, [.ref (ad 1), .ref (ad 2), .ref (ad 3), .ref (ad 4), .ref (ad 5), .ref (ad 6), .ref (ad 7), .int (nI n)])), (ad 1, .inl (cI, 12, .inl aK)), (ad 2, .inl (cI, 12, .inl aA)), (ad 3, .inl (cI, 12, .inl aB)), (ad 4, .inl (cI, 12, .inl aC)), (ad 5, .inl (cI, 12, .inl aP)), (ad 6, .inl (cI, 2, .inl aV)), (ad 7, .inl (cI, 12, .inl u))] H := hP
  have hD : va_D A9 [(ad 0, .inr (1, [.ref (ad 1), .ref (ad 2), .ref (ad 3), .ref (ad 4), .ref (ad 5), .ref (ad 6), .ref (ad 7), .int (nI n)])), (ad 1, .inl (cI, 12, .inl aK)), (ad 2, .inl (cI, 12, .inl aA)), (ad 3, .inl (cI, 12, .inl aB)), (ad 4, .inl (cI, 12, .inl aC)), (ad 5, .inl (cI, 12, .inl aP)), (ad 6, .inl (cI, 2, .inl aV)), (ad 7, .inl (cI, 12, .inl u))] := hD
  have eu : u = (pc_ah fk fa fb fc x y (aP t) 0 n 0 aN).2 := by rcases er1 with ⟨-, e⟩ | ⟨-, e⟩ <;> rw [e]
  refine lv_pop hx hb dX3_answer_13 rfl ?_
  refine lv_aload_n hx hb dX3_answer_14 rfl (lv_at hl 0 rfl) ?_
  refine va_get (D := (dC, dI)) (ci := 1) (v := .ref (ad 7)) (C := RX3) (T := TX3) (N := 8) hx hb hts (fun w h => List.mem_cons_of_mem _ (wf_X3 w h)) hown hK hP 0 rfl rfl 6 (by decide) (hts _ (List.mem_cons_of_mem _ wm_fl_X3_30)) (fun _ h9 => h9) rfl dX3_answer_15 ?_
  refine lv_iload_n hx hb dX3_answer_18 rfl (lv_at hl 1 rfl) ?_
  refine xr_iald (t := t) (v := u t) hx hb hK hP 7 0 rfl rfl (by omega) (by omega) (rfl) dX3_answer_19 ?_
  exact W.iret (v := u t) hx hb hr (fun t9 ht9 hW9 => ⟨⟨u t, u, rfl, ⟨by rw [eu], eu⟩, by rw [ht9]; exact hP, va_K.moved hW9.alike hK, hD⟩, hS.F ht9⟩) hS.2.2 dX3_answer_20
end TT4
