theorem pm_nms_2 {κ : Nat} (h : κ < 20) (h0 : ¬ κ = 0) (h1 : ¬ κ = 1) (h9 : ¬ κ = 9) : (pv_s2 κ = 0 ∧ pm_nms (nI κ) = nI 1) ∨ (pv_s2 κ ≠ 0 ∧ pm_nms (nI κ) = nI 2) := by
  rcases (show κ = 2 ∨ κ = 3 ∨ κ = 4 ∨ κ = 5 ∨ κ = 6 ∨ κ = 7 ∨ κ = 8 ∨ κ = 10 ∨ κ = 11 ∨ κ = 12 ∨ κ = 13 ∨ κ = 14 ∨ κ = 15 ∨ κ = 16 ∨ κ = 17 ∨ κ = 18 ∨ κ = 19 by omega) with rfl | rfl | rfl | rfl | rfl | rfl | rfl | rfl | rfl | rfl | rfl | rfl | rfl | rfl | rfl | rfl | rfl <;> first | exact Or.inl ⟨by decide, by decide +kernel⟩ | exact Or.inr ⟨by decide, by decide +kernel⟩
def pm_bi (b : Bool) : Int32 := if b = true then 1 else 0
section MD3
variable (l : Launch) (dC : Nat → ClassId) (dI : Nat → Nat → Nat) (cI : ClassId) (ad : Nat → Nat) (aK aA aB aC aM aS aF aN : Nat → Int32) (th ck fo : Int32) (n mm lv : Nat)
set_option maxHeartbeats 4000000 in
set_option maxRecDepth 100000 in
theorem ctX5_reckonAll (sz : Nat) (hn : n ≤ 12) (fk fa fb fc : Nat → Nat) (hk : ∀ t, t < n → aK t = nI (fk t)) (ha : ∀ t, t < n → aA t = nI (fa t)) (hb2 : ∀ t, t < n → pv_s2 (fk t) ≠ 0 → aB t = nI (fb t)) (hc2 : ∀ t, t < n → pv_s3 (fk t) ≠ 0 → aC t = nI (fc t)) (hT : pv_TI fk fa fb fc n) (x y : Int32) : Met l yX5_reckonAll wsX5_reckonAll ({ frames := 4, cells := 0, slots := 0, locals := 90 }) (va_Pc [.ref (ad 0), .int x, .int y] (fun U => U.heap.size = sz ∧ va_P (dC, dI) vwCl (wM cI ad aK aA aB aC aM aS aF aN th ck fo n mm lv) U.heap ∧ va_K (dC, dI) vwCl [(cI, .int)] U ∧ va_D (fun _ => True) (wM cI ad aK aA aB aC aM aS aF aN th ck fo n mm lv))) (va_Qv (fun _ => True) (fun (u : Unit) t9 => va_P (dC, dI) vwCl (wM cI ad aK aA aB aC aM aS aF (pv_ev fk fa fb fc x y aN n) th ck fo n mm lv) t9.heap ∧ va_K (dC, dI) vwCl [(cI, .int)] t9 ∧ va_D (va_A (wM cI ad aK aA aB aC aM aS aF aN th ck fo n mm lv) sz) (wM cI ad aK aA aB aC aM aS aF (pv_ev fk fa fb fc x y aN n) th ck fo n mm lv)) (va_A (wM cI ad aK aA aB aC aM aS aF aN th ck fo n mm lv) sz)) 0 0 (va_A (wM cI ad aK aA aB aC aM aS aF aN th ck fo n mm lv) sz) := by
  refine Met.ofW (cc := cX5_reckonAll) (maxL := 6) (ret := none) (by decide) rfl ?_
  intro p e s m args below meth c s₁ B hml hv
  obtain ⟨rfl, hsz, hP, hK, hD0⟩ := hv
  subst hsz
  have hx := B.exec
  have hb := B.bytes
  have hr := B.returns
  have hts := atoms_spec (ws := wsX5_reckonAll) B.pre
  have hown : s.vm.findClass RX5 = some m.cls := findClass_of_methodNamed B.named
  have hlocks := B.notSynchronized
  have hl := lv_entry ([.ref (ad 0), .int x, .int y]) (n := 6) (Nat.le_of_ble_eq_true rfl)
  rw [lg_entry_eq]
  generalize (lg_sl ([.ref (ad 0), .int x, .int y]) ++ List.replicate (6 - (lg_sl ([.ref (ad 0), .int x, .int y])).length) Slot.unset).toArray = ls at hl ⊢
  have hl : lv_has ls 6 [(0, .ref (ad 0)), (1, .int x), (2, .int y)] := hl
  have hD := hD0.self (sz := s.heap.size)
  generalize hAe : va_A (wM cI ad aK aA aB aC aM aS aF aN th ck fo n mm lv) s.heap.size = A9 at hD ⊢
  have hA : ∀ q : Nat, s.heap.size ≤ q → A9 q := fun q h => by rw [← hAe]; exact Or.inr h
  have hS : va_S A9 s.heap s.heap [] := va_S.rf
  refine lv_iconst (v := 0) hx hb dX5_reckonAll_0 (by decide) ?_
  refine lv_istore_n (lv' := [(3, .int 0), (0, .ref (ad 0)), (1, .int x), (2, .int y)]) hx hb dX5_reckonAll_1 rfl hl (by decide) rfl (fun ls hl => ?_)
  have hl : lv_has ls 6 [(3, .int (nI 0)), (2, .int y), (1, .int x), (0, .ref (ad 0))] := lv_sub hl [0, 3, 2, 1] rfl
  refine xw_loop (pc := 2) (fun (t : Nat) => n - t) (fun (t : Nat) ls H9 locs9 => t ≤ n ∧ va_P (dC, dI) vwCl [(ad 0, .inr (3, [.int th, .int (nI n), .ref (ad 1), .ref (ad 2), .ref (ad 3), .ref (ad 4), .int (nI mm), .ref (ad 5), .int (nI lv), .ref (ad 6), .int ck, .int fo, .ref (ad 7), .ref (ad 8)])), (ad 1, .inl (cI, 12, .inl aK)), (ad 2, .inl (cI, 12, .inl aA)), (ad 3, .inl (cI, 12, .inl aB)), (ad 4, .inl (cI, 12, .inl aC)), (ad 5, .inl (cI, 20, .inl aM)), (ad 6, .inl (cI, 6, .inl aS)), (ad 7, .inl (cI, 2, .inl aF)), (ad 8, .inl (cI, 12, .inl (pv_ev fk fa fb fc x y aN t)))] H9 ∧ va_D A9 [(ad 0, .inr (3, [.int th, .int (nI n), .ref (ad 1), .ref (ad 2), .ref (ad 3), .ref (ad 4), .int (nI mm), .ref (ad 5), .int (nI lv), .ref (ad 6), .int ck, .int fo, .ref (ad 7), .ref (ad 8)])), (ad 1, .inl (cI, 12, .inl aK)), (ad 2, .inl (cI, 12, .inl aA)), (ad 3, .inl (cI, 12, .inl aB)), (ad 4, .inl (cI, 12, .inl aC)), (ad 5, .inl (cI, 20, .inl aM)), (ad 6, .inl (cI, 6, .inl aS)), (ad 7, .inl (cI, 2, .inl aF)), (ad 8, .inl (cI, 12, .inl (pv_ev fk fa fb fc x y aN t)))] ∧ va_S A9 s.heap H9 locs9 ∧ lv_has ls 6 [(3, .int (nI t)), (2, .int y), (1, .int x), (0, .ref (ad 0))]) ?_ 0 ls _ _ ⟨Nat.zero_le _, hP, hD, hS, hl⟩
  clear hP hD hS hl
  intro t ls H locs ⟨htn, hP, hD, hS, hl⟩ ih
  refine lv_iload_n hx hb dX5_reckonAll_2 rfl (lv_at hl 0 rfl) ?_
  refine lv_aload_n hx hb dX5_reckonAll_3 rfl (lv_at hl 3 rfl) ?_
  refine va_get (D := (dC, dI)) (ci := 3) (v := .int (nI n)) (C := RX5) (T := TX5) (N := 14) hx hb hts (fun w h => List.mem_cons_of_mem _ (wf_X5 w h)) hown hK hP 0 rfl rfl 1 (by decide) (hts _ (List.mem_cons_of_mem _ wm_fl_X5_76)) (fun _ h9 => h9) rfl dX5_reckonAll_4 ?_
  refine lv_icmp_ge (tgt := 167) hx hb dX5_reckonAll_7 (by decide) (fun h1 => ?_) (fun h1 => ?_)
  · skip
    have h1 : n ≤ t := (nI_leI (a := n) (b := t) (by omega) (by omega)).mp h1
    have etn : t = n := by omega
    subst etn
    exact W.vret hx hb hr (fun t9 ht9 hW9 => ⟨⟨(), rfl, trivial, by rw [ht9]; exact hP, va_K.moved hW9.alike hK, hD⟩, hS.F ht9⟩) hS.2.2 dX5_reckonAll_167
  · skip
    have h1 : ¬ n ≤ t := fun z => h1 ((nI_leI (a := n) (b := t) (by omega) (by omega)).mpr z)
    have ht : t < n := by omega
    have hk20 := pt_k20 hT ht
    have ha32 := pt_a32 hn hT ht
    refine lv_aload_n hx hb dX5_reckonAll_10 rfl (lv_at hl 3 rfl) ?_
    refine va_get (D := (dC, dI)) (ci := 3) (v := .ref (ad 1)) (C := RX5) (T := TX5) (N := 14) hx hb hts (fun w h => List.mem_cons_of_mem _ (wf_X5 w h)) hown hK hP 0 rfl rfl 2 (by decide) (hts _ (List.mem_cons_of_mem _ wm_fl_X5_7)) (fun _ h9 => h9) rfl dX5_reckonAll_11 ?_
    refine lv_iload_n hx hb dX5_reckonAll_14 rfl (lv_at hl 0 rfl) ?_
    refine xr_iald (t := t) (v := nI (fk t)) hx hb hK hP 1 0 rfl rfl (by omega) (by omega) (hk t (by omega)) dX5_reckonAll_15 ?_
    refine lv_istore (lv' := [(4, .int (nI (fk t))), (3, .int (nI t)), (2, .int y), (1, .int x), (0, .ref (ad 0))]) hx hb dX5_reckonAll_16 hl (by decide) rfl (fun ls hl => ?_)
    refine lv_aload_n hx hb dX5_reckonAll_18 rfl (lv_at hl 4 rfl) ?_
    refine va_get (D := (dC, dI)) (ci := 3) (v := .ref (ad 2)) (C := RX5) (T := TX5) (N := 14) hx hb hts (fun w h => List.mem_cons_of_mem _ (wf_X5 w h)) hown hK hP 0 rfl rfl 3 (by decide) (hts _ (List.mem_cons_of_mem _ wm_fl_X5_13)) (fun _ h9 => h9) rfl dX5_reckonAll_19 ?_
    refine lv_iload_n hx hb dX5_reckonAll_22 rfl (lv_at hl 1 rfl) ?_
    refine xr_iald (t := t) (v := nI (fa t)) hx hb hK hP 2 0 rfl rfl (by omega) (by omega) (ha t (by omega)) dX5_reckonAll_23 ?_
    refine lv_istore (lv' := [(5, .int (nI (fa t))), (4, .int (nI (fk t))), (3, .int (nI t)), (2, .int y), (1, .int x), (0, .ref (ad 0))]) hx hb dX5_reckonAll_24 hl (by decide) rfl (fun ls hl => ?_)
    refine lv_iload hx hb dX5_reckonAll_26 (lv_at hl 1 rfl) ?_
    refine lv_if_ne (tgt := 50) hx hb dX5_reckonAll_28 (by decide) (fun h2 => ?_) (fun h2 => ?_)
    · skip
      have h2 : ¬ fk t = 0 := fun z => h2 ((nI_eq (a := (fk t)) (b := 0) (by omega) (by omega)).mpr z)
      refine lv_iload hx hb dX5_reckonAll_50 (lv_at hl 1 rfl) ?_
      refine lv_iconst (v := nI 1) hx hb dX5_reckonAll_52 (by decide) ?_
      refine lv_icmp_ne (tgt := 67) hx hb dX5_reckonAll_53 (by decide) (fun h3 => ?_) (fun h3 => ?_)
      · skip
        have h3 : ¬ fk t = 1 := fun z => h3 ((nI_eq (a := (fk t)) (b := 1) (by omega) (by omega)).mpr z)
        obtain ⟨la, lb, lc⟩ := pt_lt hn hT ht h2 h3
        refine lv_iload hx hb dX5_reckonAll_67 (lv_at hl 1 rfl) ?_
        refine lv_bipush (v := nI 9) hx hb dX5_reckonAll_69 (by decide) ?_
        refine lv_icmp_ne (tgt := 119) hx hb dX5_reckonAll_71 (by decide) (fun h4 => ?_) (fun h4 => ?_)
        · skip
          have h4 : ¬ fk t = 9 := fun z => h4 ((nI_eq (a := (fk t)) (b := 9) (by omega) (by omega)).mpr z)
          refine lv_aload_n hx hb dX5_reckonAll_119 rfl (lv_at hl 5 rfl) ?_
          refine va_get (D := (dC, dI)) (ci := 3) (v := .ref (ad 8)) (C := RX5) (T := TX5) (N := 14) hx hb hts (fun w h => List.mem_cons_of_mem _ (wf_X5 w h)) hown hK hP 0 rfl rfl 13 (by decide) (hts _ (List.mem_cons_of_mem _ wm_fl_X5_31)) (fun _ h9 => h9) rfl dX5_reckonAll_120 ?_
          refine lv_iload_n hx hb dX5_reckonAll_123 rfl (lv_at hl 2 rfl) ?_
          refine lv_iload hx hb dX5_reckonAll_124 (lv_at hl 1 rfl) ?_
          refine lv_aload_n hx hb dX5_reckonAll_126 rfl (lv_at hl 5 rfl) ?_
          refine va_get (D := (dC, dI)) (ci := 3) (v := .ref (ad 8)) (C := RX5) (T := TX5) (N := 14) hx hb hts (fun w h => List.mem_cons_of_mem _ (wf_X5 w h)) hown hK hP 0 rfl rfl 13 (by decide) (hts _ (List.mem_cons_of_mem _ wm_fl_X5_31)) (fun _ h9 => h9) rfl dX5_reckonAll_127 ?_
          refine lv_iload hx hb dX5_reckonAll_130 (lv_at hl 0 rfl) ?_
          refine xr_iald (t := fa t) (v := (pv_ev fk fa fb fc x y aN t) (fa t)) hx hb hK hP 8 0 rfl rfl (by omega) (by omega) (rfl) dX5_reckonAll_132 ?_
          refine lv_iload hx hb dX5_reckonAll_133 (lv_at hl 1 rfl) ?_
          refine vp_callSi (W.runS (As := [.int (nI (fk t))]) (rest := [.int ((pv_ev fk fa fb fc x y aN t) (fa t)), .int (nI (fk t)), .int (nI t), .ref (ad 8)]) ⟨hx, hb, hml, hown, hts⟩ (ctX5_names l (nI (fk t))) (va_cwS 1 hts (wA_wsS wm_ml_X5_88 wm_st_X5_names wm_in_X5 wm_cd_X5_names) rfl rfl rfl (by decide +kernel) ⟨Nat.le_of_ble_eq_true rfl, Nat.le_of_ble_eq_true rfl⟩) ⟨fun a U g mk q => q, fun U hU hW => ⟨rfl, trivial⟩⟩ rfl rfl hl.1 rfl (lv_room (Nat.le_of_ble_eq_true rfl)) dX5_reckonAll_135 ⟨Nat.zero_le _, Nat.zero_le _⟩) (fun r5 er5 => ?_)
          rcases pm_nms_2 hk20 h2 h3 h4 with ⟨hs2, en⟩ | ⟨hs2, en⟩
          · rw [en] at er5
            subst er5
            refine lv_iconst (v := nI 2) hx hb dX5_reckonAll_138 (by decide) ?_
            refine lv_icmp_ne (tgt := 156) hx hb dX5_reckonAll_139 (by decide) (fun _ => ?_) (fun h6 => absurd h6 (by decide))
            refine lv_iconst (v := 0) hx hb dX5_reckonAll_156 (by decide) ?_
            refine vp_callSi (W.runS (As := [.int (nI (fk t)), .int ((pv_ev fk fa fb fc x y aN t) (fa t)), .int 0]) (rest := [.int (nI t), .ref (ad 8)]) ⟨hx, hb, hml, hown, hts⟩ (ctX5_operate l (nI (fk t)) ((pv_ev fk fa fb fc x y aN t) (fa t)) 0) (va_cwS 3 hts (wA_wsS wm_ml_X5_95 wm_st_X5_operate wm_in_X5 wm_cd_X5_operate) rfl rfl rfl (by decide +kernel) ⟨Nat.le_of_ble_eq_true rfl, Nat.le_of_ble_eq_true rfl⟩) ⟨fun a U g mk q => q, fun U hU hW => ⟨rfl, trivial⟩⟩ rfl rfl hl.1 rfl (lv_room (Nat.le_of_ble_eq_true rfl)) dX5_reckonAll_157 ⟨Nat.zero_le _, Nat.zero_le _⟩) (fun r7 er7 => ?_)
            subst er7
            refine xr_iast (t := t) (x := pm_op (nI (fk t)) ((pv_ev fk fa fb fc x y aN t) (fa t)) 0) hx hb hK hP hD hS 8 0 rfl rfl (by omega) (by omega) dX5_reckonAll_160 (fun H locs hP hD hS => ?_)
            have hP : va_P (dC, dI) vwCl [(ad 0, .inr (3, [.int th, .int (nI n), .ref (ad 1), .ref (ad 2), .ref (ad 3), .ref (ad 4), .int (nI mm), .ref (ad 5), .int (nI lv), .ref (ad 6), .int ck, .int fo, .ref (ad 7), .ref (ad 8)])), (ad 1, .inl (cI, 12, .inl aK)), (ad 2, .inl (cI, 12, .inl aA)), (ad 3, .inl (cI, 12, .inl aB)), (ad 4, .inl (cI, 12, .inl aC)), (ad 5, .inl (cI, 20, .inl aM)), (ad 6, .inl (cI, 6, .inl aS)), (ad 7, .inl (cI, 2, .inl aF)), (ad 8, .inl (cI, 12, .inl (upd (pv_ev fk fa fb fc x y aN t) t (pm_op (nI (fk t)) ((pv_ev fk fa fb fc x y aN t) (fa t)) 0))))] H := hP
            have hD : va_D A9 [(ad 0, .inr (3, [.int th, .int (nI n), .ref (ad 1), .ref (ad 2), .ref (ad 3), .ref (ad 4), .int (nI mm), .ref (ad 5), .int (nI lv), .ref (ad 6), .int ck, .int fo, .ref (ad 7), .ref (ad 8)])), (ad 1, .inl (cI, 12, .inl aK)), (ad 2, .inl (cI, 12, .inl aA)), (ad 3, .inl (cI, 12, .inl aB)), (ad 4, .inl (cI, 12, .inl aC)), (ad 5, .inl (cI, 20, .inl aM)), (ad 6, .inl (cI, 6, .inl aS)), (ad 7, .inl (cI, 2, .inl aF)), (ad 8, .inl (cI, 12, .inl (upd (pv_ev fk fa fb fc x y aN t) t (pm_op (nI (fk t)) ((pv_ev fk fa fb fc x y aN t) (fa t)) 0))))] := hD
            refine lv_iinc (k := 2) (v := nI (t + 1)) (lv' := [(3, .int (nI (t + 1))), (5, .int (nI (fa t))), (4, .int (nI (fk t))), (2, .int y), (1, .int x), (0, .ref (ad 0))]) hx hb dX5_reckonAll_161 hl rfl (nI_1 t) (by decide) rfl (fun ls hl => ?_)
            refine lv_goto (tgt := 2) hx hb dX5_reckonAll_164 (by decide) ?_
            have ev : (pm_op (nI (fk t)) ((pv_ev fk fa fb fc x y aN t) (fa t)) 0) = pv_one fk fa fb fc x y (pv_ev fk fa fb fc x y aN t) t := by
              first | (simp only [pv_one, h2, h3, h4, hs2, ↓reduceIte, not_true_eq_false, not_false_eq_true, and_true, true_and, and_false, false_and, or_true, true_or, or_false, false_or, and_self, or_self]; done) | (simp [pv_one, h2, h3, h4, hs2]; done)
            have ev2 : upd (pv_ev fk fa fb fc x y aN t) t (pm_op (nI (fk t)) ((pv_ev fk fa fb fc x y aN t) (fa t)) 0) = pv_ev fk fa fb fc x y aN (t + 1) := congrArg (fun z => upd (pv_ev fk fa fb fc x y aN t) t z) ev
            rw [ev2] at hP hD
            exact ih (t + 1) ls H locs ⟨by omega, hP, hD, hS, lv_sub hl [0, 3, 4, 5] rfl⟩ (by show n - (t + 1) < n - t; omega)
          · rw [en] at er5
            subst er5
            refine lv_iconst (v := nI 2) hx hb dX5_reckonAll_138 (by decide) ?_
            refine lv_icmp_ne (tgt := 156) hx hb dX5_reckonAll_139 (by decide) (fun h8 => absurd (by decide) h8) (fun _ => ?_)
            refine lv_aload_n hx hb dX5_reckonAll_142 rfl (lv_at hl 5 rfl) ?_
            refine va_get (D := (dC, dI)) (ci := 3) (v := .ref (ad 8)) (C := RX5) (T := TX5) (N := 14) hx hb hts (fun w h => List.mem_cons_of_mem _ (wf_X5 w h)) hown hK hP 0 rfl rfl 13 (by decide) (hts _ (List.mem_cons_of_mem _ wm_fl_X5_31)) (fun _ h9 => h9) rfl dX5_reckonAll_143 ?_
            refine lv_aload_n hx hb dX5_reckonAll_146 rfl (lv_at hl 5 rfl) ?_
            refine va_get (D := (dC, dI)) (ci := 3) (v := .ref (ad 3)) (C := RX5) (T := TX5) (N := 14) hx hb hts (fun w h => List.mem_cons_of_mem _ (wf_X5 w h)) hown hK hP 0 rfl rfl 4 (by decide) (hts _ (List.mem_cons_of_mem _ wm_fl_X5_16)) (fun _ h9 => h9) rfl dX5_reckonAll_147 ?_
            refine lv_iload_n hx hb dX5_reckonAll_150 rfl (lv_at hl 2 rfl) ?_
            refine xr_iald (t := t) (v := nI (fb t)) hx hb hK hP 3 0 rfl rfl (by omega) (by omega) (hb2 t (by omega) hs2) dX5_reckonAll_151 ?_
            refine xr_iald (t := fb t) (v := (pv_ev fk fa fb fc x y aN t) (fb t)) hx hb hK hP 8 0 rfl rfl (by omega) (by omega) (rfl) dX5_reckonAll_152 ?_
            refine lv_goto (tgt := 157) hx hb dX5_reckonAll_153 (by decide) ?_
            refine vp_callSi (W.runS (As := [.int (nI (fk t)), .int ((pv_ev fk fa fb fc x y aN t) (fa t)), .int ((pv_ev fk fa fb fc x y aN t) (fb t))]) (rest := [.int (nI t), .ref (ad 8)]) ⟨hx, hb, hml, hown, hts⟩ (ctX5_operate l (nI (fk t)) ((pv_ev fk fa fb fc x y aN t) (fa t)) ((pv_ev fk fa fb fc x y aN t) (fb t))) (va_cwS 3 hts (wA_wsS wm_ml_X5_95 wm_st_X5_operate wm_in_X5 wm_cd_X5_operate) rfl rfl rfl (by decide +kernel) ⟨Nat.le_of_ble_eq_true rfl, Nat.le_of_ble_eq_true rfl⟩) ⟨fun a U g mk q => q, fun U hU hW => ⟨rfl, trivial⟩⟩ rfl rfl hl.1 rfl (lv_room (Nat.le_of_ble_eq_true rfl)) dX5_reckonAll_157 ⟨Nat.zero_le _, Nat.zero_le _⟩) (fun r9 er9 => ?_)
            subst er9
            refine xr_iast (t := t) (x := pm_op (nI (fk t)) ((pv_ev fk fa fb fc x y aN t) (fa t)) ((pv_ev fk fa fb fc x y aN t) (fb t))) hx hb hK hP hD hS 8 0 rfl rfl (by omega) (by omega) dX5_reckonAll_160 (fun H locs hP hD hS => ?_)
            have hP : va_P (dC, dI) vwCl [(ad 0, .inr (3, [.int th, .int (nI n), .ref (ad 1), .ref (ad 2), .ref (ad 3), .ref (ad 4), .int (nI mm), .ref (ad 5), .int (nI lv), .ref (ad 6), .int ck, .int fo, .ref (ad 7), .ref (ad 8)])), (ad 1, .inl (cI, 12, .inl aK)), (ad 2, .inl (cI, 12, .inl aA)), (ad 3, .inl (cI, 12, .inl aB)), (ad 4, .inl (cI, 12, .inl aC)), (ad 5, .inl (cI, 20, .inl aM)), (ad 6, .inl (cI, 6, .inl aS)), (ad 7, .inl (cI, 2, .inl aF)), (ad 8, .inl (cI, 12, .inl (upd (pv_ev fk fa fb fc x y aN t) t (pm_op (nI (fk t)) ((pv_ev fk fa fb fc x y aN t) (fa t)) ((pv_ev fk fa fb fc x y aN t) (fb t))))))] H := hP
            have hD : va_D A9 [(ad 0, .inr (3, [.int th, .int (nI n), .ref (ad 1), .ref (ad 2), .ref (ad 3), .ref (ad 4), .int (nI mm), .ref (ad 5), .int (nI lv), .ref (ad 6), .int ck, .int fo, .ref (ad 7), .ref (ad 8)])), (ad 1, .inl (cI, 12, .inl aK)), (ad 2, .inl (cI, 12, .inl aA)), (ad 3, .inl (cI, 12, .inl aB)), (ad 4, .inl (cI, 12, .inl aC)), (ad 5, .inl (cI, 20, .inl aM)), (ad 6, .inl (cI, 6, .inl aS)), (ad 7, .inl (cI, 2, .inl aF)), (ad 8, .inl (cI, 12, .inl (upd (pv_ev fk fa fb fc x y aN t) t (pm_op (nI (fk t)) ((pv_ev fk fa fb fc x y aN t) (fa t)) ((pv_ev fk fa fb fc x y aN t) (fb t))))))] := hD
            refine lv_iinc (k := 2) (v := nI (t + 1)) (lv' := [(3, .int (nI (t + 1))), (5, .int (nI (fa t))), (4, .int (nI (fk t))), (2, .int y), (1, .int x), (0, .ref (ad 0))]) hx hb dX5_reckonAll_161 hl rfl (nI_1 t) (by decide) rfl (fun ls hl => ?_)
            refine lv_goto (tgt := 2) hx hb dX5_reckonAll_164 (by decide) ?_
            have ev : (pm_op (nI (fk t)) ((pv_ev fk fa fb fc x y aN t) (fa t)) ((pv_ev fk fa fb fc x y aN t) (fb t))) = pv_one fk fa fb fc x y (pv_ev fk fa fb fc x y aN t) t := by
              first | (simp only [pv_one, h2, h3, h4, hs2, ↓reduceIte, not_true_eq_false, not_false_eq_true, and_true, true_and, and_false, false_and, or_true, true_or, or_false, false_or, and_self, or_self]; done) | (simp [pv_one, h2, h3, h4, hs2]; done)
            have ev2 : upd (pv_ev fk fa fb fc x y aN t) t (pm_op (nI (fk t)) ((pv_ev fk fa fb fc x y aN t) (fa t)) ((pv_ev fk fa fb fc x y aN t) (fb t))) = pv_ev fk fa fb fc x y aN (t + 1) := congrArg (fun z => upd (pv_ev fk fa fb fc x y aN t) t z) ev
            rw [ev2] at hP hD
            exact ih (t + 1) ls H locs ⟨by omega, hP, hD, hS, lv_sub hl [0, 3, 4, 5] rfl⟩ (by show n - (t + 1) < n - t; omega)
        · skip
          have h4 : fk t = 9 := (nI_eq (a := (fk t)) (b := 9) (by omega) (by omega)).mp h4
          have hs2 : pv_s2 (fk t) ≠ 0 := by rw [h4]; decide
          have hs3 : pv_s3 (fk t) ≠ 0 := by rw [h4]; decide
          refine lv_aload_n hx hb dX5_reckonAll_74 rfl (lv_at hl 5 rfl) ?_
          refine va_get (D := (dC, dI)) (ci := 3) (v := .ref (ad 8)) (C := RX5) (T := TX5) (N := 14) hx hb hts (fun w h => List.mem_cons_of_mem _ (wf_X5 w h)) hown hK hP 0 rfl rfl 13 (by decide) (hts _ (List.mem_cons_of_mem _ wm_fl_X5_31)) (fun _ h9 => h9) rfl dX5_reckonAll_75 ?_
          refine lv_iload_n hx hb dX5_reckonAll_78 rfl (lv_at hl 2 rfl) ?_
          refine lv_aload_n hx hb dX5_reckonAll_79 rfl (lv_at hl 5 rfl) ?_
          refine va_get (D := (dC, dI)) (ci := 3) (v := .ref (ad 8)) (C := RX5) (T := TX5) (N := 14) hx hb hts (fun w h => List.mem_cons_of_mem _ (wf_X5 w h)) hown hK hP 0 rfl rfl 13 (by decide) (hts _ (List.mem_cons_of_mem _ wm_fl_X5_31)) (fun _ h9 => h9) rfl dX5_reckonAll_80 ?_
          refine lv_iload hx hb dX5_reckonAll_83 (lv_at hl 0 rfl) ?_
          refine xr_iald (t := fa t) (v := (pv_ev fk fa fb fc x y aN t) (fa t)) hx hb hK hP 8 0 rfl rfl (by omega) (by omega) (rfl) dX5_reckonAll_85 ?_
          refine lv_iconst (v := 1) hx hb dX5_reckonAll_86 (by decide) ?_
          refine lv_icmp_ne (tgt := 104) hx hb dX5_reckonAll_87 (by decide) (fun h10 => ?_) (fun h10 => ?_)
          · skip
            refine lv_aload_n hx hb dX5_reckonAll_104 rfl (lv_at hl 5 rfl) ?_
            refine va_get (D := (dC, dI)) (ci := 3) (v := .ref (ad 8)) (C := RX5) (T := TX5) (N := 14) hx hb hts (fun w h => List.mem_cons_of_mem _ (wf_X5 w h)) hown hK hP 0 rfl rfl 13 (by decide) (hts _ (List.mem_cons_of_mem _ wm_fl_X5_31)) (fun _ h9 => h9) rfl dX5_reckonAll_105 ?_
            refine lv_aload_n hx hb dX5_reckonAll_108 rfl (lv_at hl 5 rfl) ?_
            refine va_get (D := (dC, dI)) (ci := 3) (v := .ref (ad 4)) (C := RX5) (T := TX5) (N := 14) hx hb hts (fun w h => List.mem_cons_of_mem _ (wf_X5 w h)) hown hK hP 0 rfl rfl 5 (by decide) (hts _ (List.mem_cons_of_mem _ wm_fl_X5_19)) (fun _ h9 => h9) rfl dX5_reckonAll_109 ?_
            refine lv_iload_n hx hb dX5_reckonAll_112 rfl (lv_at hl 2 rfl) ?_
            refine xr_iald (t := t) (v := nI (fc t)) hx hb hK hP 4 0 rfl rfl (by omega) (by omega) (hc2 t (by omega) hs3) dX5_reckonAll_113 ?_
            refine xr_iald (t := fc t) (v := (pv_ev fk fa fb fc x y aN t) (fc t)) hx hb hK hP 8 0 rfl rfl (by omega) (by omega) (rfl) dX5_reckonAll_114 ?_
            refine xr_iast (t := t) (x := (pv_ev fk fa fb fc x y aN t) (fc t)) hx hb hK hP hD hS 8 0 rfl rfl (by omega) (by omega) dX5_reckonAll_115 (fun H locs hP hD hS => ?_)
            have hP : va_P (dC, dI) vwCl [(ad 0, .inr (3, [.int th, .int (nI n), .ref (ad 1), .ref (ad 2), .ref (ad 3), .ref (ad 4), .int (nI mm), .ref (ad 5), .int (nI lv), .ref (ad 6), .int ck, .int fo, .ref (ad 7), .ref (ad 8)])), (ad 1, .inl (cI, 12, .inl aK)), (ad 2, .inl (cI, 12, .inl aA)), (ad 3, .inl (cI, 12, .inl aB)), (ad 4, .inl (cI, 12, .inl aC)), (ad 5, .inl (cI, 20, .inl aM)), (ad 6, .inl (cI, 6, .inl aS)), (ad 7, .inl (cI, 2, .inl aF)), (ad 8, .inl (cI, 12, .inl (upd (pv_ev fk fa fb fc x y aN t) t ((pv_ev fk fa fb fc x y aN t) (fc t)))))] H := hP
            have hD : va_D A9 [(ad 0, .inr (3, [.int th, .int (nI n), .ref (ad 1), .ref (ad 2), .ref (ad 3), .ref (ad 4), .int (nI mm), .ref (ad 5), .int (nI lv), .ref (ad 6), .int ck, .int fo, .ref (ad 7), .ref (ad 8)])), (ad 1, .inl (cI, 12, .inl aK)), (ad 2, .inl (cI, 12, .inl aA)), (ad 3, .inl (cI, 12, .inl aB)), (ad 4, .inl (cI, 12, .inl aC)), (ad 5, .inl (cI, 20, .inl aM)), (ad 6, .inl (cI, 6, .inl aS)), (ad 7, .inl (cI, 2, .inl aF)), (ad 8, .inl (cI, 12, .inl (upd (pv_ev fk fa fb fc x y aN t) t ((pv_ev fk fa fb fc x y aN t) (fc t)))))] := hD
            refine lv_goto (tgt := 161) hx hb dX5_reckonAll_116 (by decide) ?_
            refine lv_iinc (k := 2) (v := nI (t + 1)) (lv' := [(3, .int (nI (t + 1))), (5, .int (nI (fa t))), (4, .int (nI (fk t))), (2, .int y), (1, .int x), (0, .ref (ad 0))]) hx hb dX5_reckonAll_161 hl rfl (nI_1 t) (by decide) rfl (fun ls hl => ?_)
            refine lv_goto (tgt := 2) hx hb dX5_reckonAll_164 (by decide) ?_
            have ev : ((pv_ev fk fa fb fc x y aN t) (fc t)) = pv_one fk fa fb fc x y (pv_ev fk fa fb fc x y aN t) t := by
              first | (simp only [pv_one, h2, h3, h4, h10, ↓reduceIte, not_true_eq_false, not_false_eq_true, and_true, true_and, and_false, false_and, or_true, true_or, or_false, false_or, and_self, or_self]; done) | (simp [pv_one, h2, h3, h4, h10]; done)
            have ev2 : upd (pv_ev fk fa fb fc x y aN t) t ((pv_ev fk fa fb fc x y aN t) (fc t)) = pv_ev fk fa fb fc x y aN (t + 1) := congrArg (fun z => upd (pv_ev fk fa fb fc x y aN t) t z) ev
            rw [ev2] at hP hD
            exact ih (t + 1) ls H locs ⟨by omega, hP, hD, hS, lv_sub hl [0, 3, 4, 5] rfl⟩ (by show n - (t + 1) < n - t; omega)
          · skip
            refine lv_aload_n hx hb dX5_reckonAll_90 rfl (lv_at hl 5 rfl) ?_
            refine va_get (D := (dC, dI)) (ci := 3) (v := .ref (ad 8)) (C := RX5) (T := TX5) (N := 14) hx hb hts (fun w h => List.mem_cons_of_mem _ (wf_X5 w h)) hown hK hP 0 rfl rfl 13 (by decide) (hts _ (List.mem_cons_of_mem _ wm_fl_X5_31)) (fun _ h9 => h9) rfl dX5_reckonAll_91 ?_
            refine lv_aload_n hx hb dX5_reckonAll_94 rfl (lv_at hl 5 rfl) ?_
            refine va_get (D := (dC, dI)) (ci := 3) (v := .ref (ad 3)) (C := RX5) (T := TX5) (N := 14) hx hb hts (fun w h => List.mem_cons_of_mem _ (wf_X5 w h)) hown hK hP 0 rfl rfl 4 (by decide) (hts _ (List.mem_cons_of_mem _ wm_fl_X5_16)) (fun _ h9 => h9) rfl dX5_reckonAll_95 ?_
            refine lv_iload_n hx hb dX5_reckonAll_98 rfl (lv_at hl 2 rfl) ?_
            refine xr_iald (t := t) (v := nI (fb t)) hx hb hK hP 3 0 rfl rfl (by omega) (by omega) (hb2 t (by omega) hs2) dX5_reckonAll_99 ?_
            refine xr_iald (t := fb t) (v := (pv_ev fk fa fb fc x y aN t) (fb t)) hx hb hK hP 8 0 rfl rfl (by omega) (by omega) (rfl) dX5_reckonAll_100 ?_
            refine lv_goto (tgt := 115) hx hb dX5_reckonAll_101 (by decide) ?_
            refine xr_iast (t := t) (x := (pv_ev fk fa fb fc x y aN t) (fb t)) hx hb hK hP hD hS 8 0 rfl rfl (by omega) (by omega) dX5_reckonAll_115 (fun H locs hP hD hS => ?_)
            have hP : va_P (dC, dI) vwCl [(ad 0, .inr (3, [.int th, .int (nI n), .ref (ad 1), .ref (ad 2), .ref (ad 3), .ref (ad 4), .int (nI mm), .ref (ad 5), .int (nI lv), .ref (ad 6), .int ck, .int fo, .ref (ad 7), .ref (ad 8)])), (ad 1, .inl (cI, 12, .inl aK)), (ad 2, .inl (cI, 12, .inl aA)), (ad 3, .inl (cI, 12, .inl aB)), (ad 4, .inl (cI, 12, .inl aC)), (ad 5, .inl (cI, 20, .inl aM)), (ad 6, .inl (cI, 6, .inl aS)), (ad 7, .inl (cI, 2, .inl aF)), (ad 8, .inl (cI, 12, .inl (upd (pv_ev fk fa fb fc x y aN t) t ((pv_ev fk fa fb fc x y aN t) (fb t)))))] H := hP
            have hD : va_D A9 [(ad 0, .inr (3, [.int th, .int (nI n), .ref (ad 1), .ref (ad 2), .ref (ad 3), .ref (ad 4), .int (nI mm), .ref (ad 5), .int (nI lv), .ref (ad 6), .int ck, .int fo, .ref (ad 7), .ref (ad 8)])), (ad 1, .inl (cI, 12, .inl aK)), (ad 2, .inl (cI, 12, .inl aA)), (ad 3, .inl (cI, 12, .inl aB)), (ad 4, .inl (cI, 12, .inl aC)), (ad 5, .inl (cI, 20, .inl aM)), (ad 6, .inl (cI, 6, .inl aS)), (ad 7, .inl (cI, 2, .inl aF)), (ad 8, .inl (cI, 12, .inl (upd (pv_ev fk fa fb fc x y aN t) t ((pv_ev fk fa fb fc x y aN t) (fb t)))))] := hD
            refine lv_goto (tgt := 161) hx hb dX5_reckonAll_116 (by decide) ?_
            refine lv_iinc (k := 2) (v := nI (t + 1)) (lv' := [(3, .int (nI (t + 1))), (5, .int (nI (fa t))), (4, .int (nI (fk t))), (2, .int y), (1, .int x), (0, .ref (ad 0))]) hx hb dX5_reckonAll_161 hl rfl (nI_1 t) (by decide) rfl (fun ls hl => ?_)
            refine lv_goto (tgt := 2) hx hb dX5_reckonAll_164 (by decide) ?_
            have ev : ((pv_ev fk fa fb fc x y aN t) (fb t)) = pv_one fk fa fb fc x y (pv_ev fk fa fb fc x y aN t) t := by
              first | (simp only [pv_one, h2, h3, h4, h10, ↓reduceIte, not_true_eq_false, not_false_eq_true, and_true, true_and, and_false, false_and, or_true, true_or, or_false, false_or, and_self, or_self]; done) | (simp [pv_one, h2, h3, h4, h10]; done)
            have ev2 : upd (pv_ev fk fa fb fc x y aN t) t ((pv_ev fk fa fb fc x y aN t) (fb t)) = pv_ev fk fa fb fc x y aN (t + 1) := congrArg (fun z => upd (pv_ev fk fa fb fc x y aN t) t z) ev
            rw [ev2] at hP hD
            exact ih (t + 1) ls H locs ⟨by omega, hP, hD, hS, lv_sub hl [0, 3, 4, 5] rfl⟩ (by show n - (t + 1) < n - t; omega)
      · skip
        have h3 : fk t = 1 := (nI_eq (a := (fk t)) (b := 1) (by omega) (by omega)).mp h3
        refine lv_aload_n hx hb dX5_reckonAll_56 rfl (lv_at hl 5 rfl) ?_
        refine va_get (D := (dC, dI)) (ci := 3) (v := .ref (ad 8)) (C := RX5) (T := TX5) (N := 14) hx hb hts (fun w h => List.mem_cons_of_mem _ (wf_X5 w h)) hown hK hP 0 rfl rfl 13 (by decide) (hts _ (List.mem_cons_of_mem _ wm_fl_X5_31)) (fun _ h9 => h9) rfl dX5_reckonAll_57 ?_
        refine lv_iload_n hx hb dX5_reckonAll_60 rfl (lv_at hl 2 rfl) ?_
        refine lv_iload hx hb dX5_reckonAll_61 (lv_at hl 0 rfl) ?_
        refine xr_iast (t := t) (x := nI (fa t)) hx hb hK hP hD hS 8 0 rfl rfl (by omega) (by omega) dX5_reckonAll_63 (fun H locs hP hD hS => ?_)
        have hP : va_P (dC, dI) vwCl [(ad 0, .inr (3, [.int th, .int (nI n), .ref (ad 1), .ref (ad 2), .ref (ad 3), .ref (ad 4), .int (nI mm), .ref (ad 5), .int (nI lv), .ref (ad 6), .int ck, .int fo, .ref (ad 7), .ref (ad 8)])), (ad 1, .inl (cI, 12, .inl aK)), (ad 2, .inl (cI, 12, .inl aA)), (ad 3, .inl (cI, 12, .inl aB)), (ad 4, .inl (cI, 12, .inl aC)), (ad 5, .inl (cI, 20, .inl aM)), (ad 6, .inl (cI, 6, .inl aS)), (ad 7, .inl (cI, 2, .inl aF)), (ad 8, .inl (cI, 12, .inl (upd (pv_ev fk fa fb fc x y aN t) t (nI (fa t)))))] H := hP
        have hD : va_D A9 [(ad 0, .inr (3, [.int th, .int (nI n), .ref (ad 1), .ref (ad 2), .ref (ad 3), .ref (ad 4), .int (nI mm), .ref (ad 5), .int (nI lv), .ref (ad 6), .int ck, .int fo, .ref (ad 7), .ref (ad 8)])), (ad 1, .inl (cI, 12, .inl aK)), (ad 2, .inl (cI, 12, .inl aA)), (ad 3, .inl (cI, 12, .inl aB)), (ad 4, .inl (cI, 12, .inl aC)), (ad 5, .inl (cI, 20, .inl aM)), (ad 6, .inl (cI, 6, .inl aS)), (ad 7, .inl (cI, 2, .inl aF)), (ad 8, .inl (cI, 12, .inl (upd (pv_ev fk fa fb fc x y aN t) t (nI (fa t)))))] := hD
        refine lv_goto (tgt := 161) hx hb dX5_reckonAll_64 (by decide) ?_
        refine lv_iinc (k := 2) (v := nI (t + 1)) (lv' := [(3, .int (nI (t + 1))), (5, .int (nI (fa t))), (4, .int (nI (fk t))), (2, .int y), (1, .int x), (0, .ref (ad 0))]) hx hb dX5_reckonAll_161 hl rfl (nI_1 t) (by decide) rfl (fun ls hl => ?_)
        refine lv_goto (tgt := 2) hx hb dX5_reckonAll_164 (by decide) ?_
        have ev : (nI (fa t)) = pv_one fk fa fb fc x y (pv_ev fk fa fb fc x y aN t) t := by
          first | (simp only [pv_one, h2, h3, ↓reduceIte, not_true_eq_false, not_false_eq_true, and_true, true_and, and_false, false_and, or_true, true_or, or_false, false_or, and_self, or_self]; done) | (simp [pv_one, h2, h3]; done)
        have ev2 : upd (pv_ev fk fa fb fc x y aN t) t (nI (fa t)) = pv_ev fk fa fb fc x y aN (t + 1) := congrArg (fun z => upd (pv_ev fk fa fb fc x y aN t) t z) ev
        rw [ev2] at hP hD
        exact ih (t + 1) ls H locs ⟨by omega, hP, hD, hS, lv_sub hl [0, 3, 4, 5] rfl⟩ (by show n - (t + 1) < n - t; omega)
    · skip
      have h2 : fk t = 0 := (nI_eq (a := (fk t)) (b := 0) (by omega) (by omega)).mp h2
      refine lv_aload_n hx hb dX5_reckonAll_31 rfl (lv_at hl 5 rfl) ?_
      refine va_get (D := (dC, dI)) (ci := 3) (v := .ref (ad 8)) (C := RX5) (T := TX5) (N := 14) hx hb hts (fun w h => List.mem_cons_of_mem _ (wf_X5 w h)) hown hK hP 0 rfl rfl 13 (by decide) (hts _ (List.mem_cons_of_mem _ wm_fl_X5_31)) (fun _ h9 => h9) rfl dX5_reckonAll_32 ?_
      refine lv_iload_n hx hb dX5_reckonAll_35 rfl (lv_at hl 2 rfl) ?_
      refine lv_iload hx hb dX5_reckonAll_36 (lv_at hl 0 rfl) ?_
      refine lv_if_ne (tgt := 45) hx hb dX5_reckonAll_38 (by decide) (fun h11 => ?_) (fun h11 => ?_)
      · skip
        have h11 : ¬ fa t = 0 := fun z => h11 ((nI_eq (a := (fa t)) (b := 0) (by omega) (by omega)).mpr z)
        refine lv_iload_n hx hb dX5_reckonAll_45 rfl (lv_at hl 3 rfl) ?_
        refine xr_iast (t := t) (x := y) hx hb hK hP hD hS 8 0 rfl rfl (by omega) (by omega) dX5_reckonAll_46 (fun H locs hP hD hS => ?_)
        have hP : va_P (dC, dI) vwCl [(ad 0, .inr (3, [.int th, .int (nI n), .ref (ad 1), .ref (ad 2), .ref (ad 3), .ref (ad 4), .int (nI mm), .ref (ad 5), .int (nI lv), .ref (ad 6), .int ck, .int fo, .ref (ad 7), .ref (ad 8)])), (ad 1, .inl (cI, 12, .inl aK)), (ad 2, .inl (cI, 12, .inl aA)), (ad 3, .inl (cI, 12, .inl aB)), (ad 4, .inl (cI, 12, .inl aC)), (ad 5, .inl (cI, 20, .inl aM)), (ad 6, .inl (cI, 6, .inl aS)), (ad 7, .inl (cI, 2, .inl aF)), (ad 8, .inl (cI, 12, .inl (upd (pv_ev fk fa fb fc x y aN t) t y)))] H := hP
        have hD : va_D A9 [(ad 0, .inr (3, [.int th, .int (nI n), .ref (ad 1), .ref (ad 2), .ref (ad 3), .ref (ad 4), .int (nI mm), .ref (ad 5), .int (nI lv), .ref (ad 6), .int ck, .int fo, .ref (ad 7), .ref (ad 8)])), (ad 1, .inl (cI, 12, .inl aK)), (ad 2, .inl (cI, 12, .inl aA)), (ad 3, .inl (cI, 12, .inl aB)), (ad 4, .inl (cI, 12, .inl aC)), (ad 5, .inl (cI, 20, .inl aM)), (ad 6, .inl (cI, 6, .inl aS)), (ad 7, .inl (cI, 2, .inl aF)), (ad 8, .inl (cI, 12, .inl (upd (pv_ev fk fa fb fc x y aN t) t y)))] := hD
        refine lv_goto (tgt := 161) hx hb dX5_reckonAll_47 (by decide) ?_
        refine lv_iinc (k := 2) (v := nI (t + 1)) (lv' := [(3, .int (nI (t + 1))), (5, .int (nI (fa t))), (4, .int (nI (fk t))), (2, .int y), (1, .int x), (0, .ref (ad 0))]) hx hb dX5_reckonAll_161 hl rfl (nI_1 t) (by decide) rfl (fun ls hl => ?_)
        refine lv_goto (tgt := 2) hx hb dX5_reckonAll_164 (by decide) ?_
        have ev : y = pv_one fk fa fb fc x y (pv_ev fk fa fb fc x y aN t) t := by
          first | (simp only [pv_one, h2, h11, ↓reduceIte, not_true_eq_false, not_false_eq_true, and_true, true_and, and_false, false_and, or_true, true_or, or_false, false_or, and_self, or_self]; done) | (simp [pv_one, h2, h11]; done)
        have ev2 : upd (pv_ev fk fa fb fc x y aN t) t y = pv_ev fk fa fb fc x y aN (t + 1) := congrArg (fun z => upd (pv_ev fk fa fb fc x y aN t) t z) ev
        rw [ev2] at hP hD
        exact ih (t + 1) ls H locs ⟨by omega, hP, hD, hS, lv_sub hl [0, 3, 4, 5] rfl⟩ (by show n - (t + 1) < n - t; omega)
      · skip
        have h11 : fa t = 0 := (nI_eq (a := (fa t)) (b := 0) (by omega) (by omega)).mp h11
        refine lv_iload_n hx hb dX5_reckonAll_41 rfl (lv_at hl 4 rfl) ?_
        refine lv_goto (tgt := 46) hx hb dX5_reckonAll_42 (by decide) ?_
        refine xr_iast (t := t) (x := x) hx hb hK hP hD hS 8 0 rfl rfl (by omega) (by omega) dX5_reckonAll_46 (fun H locs hP hD hS => ?_)
        have hP : va_P (dC, dI) vwCl [(ad 0, .inr (3, [.int th, .int (nI n), .ref (ad 1), .ref (ad 2), .ref (ad 3), .ref (ad 4), .int (nI mm), .ref (ad 5), .int (nI lv), .ref (ad 6), .int ck, .int fo, .ref (ad 7), .ref (ad 8)])), (ad 1, .inl (cI, 12, .inl aK)), (ad 2, .inl (cI, 12, .inl aA)), (ad 3, .inl (cI, 12, .inl aB)), (ad 4, .inl (cI, 12, .inl aC)), (ad 5, .inl (cI, 20, .inl aM)), (ad 6, .inl (cI, 6, .inl aS)), (ad 7, .inl (cI, 2, .inl aF)), (ad 8, .inl (cI, 12, .inl (upd (pv_ev fk fa fb fc x y aN t) t x)))] H := hP
        have hD : va_D A9 [(ad 0, .inr (3, [.int th, .int (nI n), .ref (ad 1), .ref (ad 2), .ref (ad 3), .ref (ad 4), .int (nI mm), .ref (ad 5), .int (nI lv), .ref (ad 6), .int ck, .int fo, .ref (ad 7), .ref (ad 8)])), (ad 1, .inl (cI, 12, .inl aK)), (ad 2, .inl (cI, 12, .inl aA)), (ad 3, .inl (cI, 12, .inl aB)), (ad 4, .inl (cI, 12, .inl aC)), (ad 5, .inl (cI, 20, .inl aM)), (ad 6, .inl (cI, 6, .inl aS)), (ad 7, .inl (cI, 2, .inl aF)), (ad 8, .inl (cI, 12, .inl (upd (pv_ev fk fa fb fc x y aN t) t x)))] := hD
        refine lv_goto (tgt := 161) hx hb dX5_reckonAll_47 (by decide) ?_
        refine lv_iinc (k := 2) (v := nI (t + 1)) (lv' := [(3, .int (nI (t + 1))), (5, .int (nI (fa t))), (4, .int (nI (fk t))), (2, .int y), (1, .int x), (0, .ref (ad 0))]) hx hb dX5_reckonAll_161 hl rfl (nI_1 t) (by decide) rfl (fun ls hl => ?_)
        refine lv_goto (tgt := 2) hx hb dX5_reckonAll_164 (by decide) ?_
        have ev : x = pv_one fk fa fb fc x y (pv_ev fk fa fb fc x y aN t) t := by
          first | (simp only [pv_one, h2, h11, ↓reduceIte, not_true_eq_false, not_false_eq_true, and_true, true_and, and_false, false_and, or_true, true_or, or_false, false_or, and_self, or_self]; done) | (simp [pv_one, h2, h11]; done)
        have ev2 : upd (pv_ev fk fa fb fc x y aN t) t x = pv_ev fk fa fb fc x y aN (t + 1) := congrArg (fun z => upd (pv_ev fk fa fb fc x y aN t) t z) ev
        rw [ev2] at hP hD
        exact ih (t + 1) ls H locs ⟨by omega, hP, hD, hS, lv_sub hl [0, 3, 4, 5] rfl⟩ (by show n - (t + 1) < n - t; omega)
set_option maxHeartbeats 4000000 in
set_option maxRecDepth 100000 in
theorem ctX5_allHold (hm : mm ≤ 20) (cm : Nat → Nat) (hcm : ∀ i, i < mm → aM i = nI (cm i)) (hc12 : ∀ i, i < mm → cm i < 12) : Met l yX5_allHold wsX5_allHold ({ frames := 0, cells := 0, slots := 0, locals := 0 }) (va_Pc [.ref (ad 0)] (fun U => va_P (dC, dI) vwCl (wM cI ad aK aA aB aC aM aS aF aN th ck fo n mm lv) U.heap ∧ va_K (dC, dI) vwCl [(cI, .int)] U)) (vp_Si (fun r => (r = 1 ∧ pm_all cm aN mm = true) ∨ (r = 0 ∧ pm_all cm aN mm = false))) 0 0 (fun _ => False) := by
  refine Met.ofW (cc := cX5_allHold) (maxL := 3) (ret := (some .boolean)) (by decide) rfl ?_
  intro p e s m args below meth c s₁ B hml hv
  obtain ⟨rfl, hP, hK⟩ := hv
  have hx := B.exec
  have hb := B.bytes
  have hr := B.returns
  have hts := atoms_spec (ws := wsX5_allHold) B.pre
  have hown : s.vm.findClass RX5 = some m.cls := findClass_of_methodNamed B.named
  have hlocks := B.notSynchronized
  have hl := lv_entry ([.ref (ad 0)]) (n := 3) (Nat.le_of_ble_eq_true rfl)
  rw [lg_entry_eq]
  generalize (lg_sl ([.ref (ad 0)]) ++ List.replicate (3 - (lg_sl ([.ref (ad 0)])).length) Slot.unset).toArray = ls at hl ⊢
  have hl : lv_has ls 3 [(0, .ref (ad 0))] := hl
  refine lv_iconst (v := 1) hx hb dX5_allHold_0 (by decide) ?_
  refine lv_istore_n (lv' := [(1, .int 1), (0, .ref (ad 0))]) hx hb dX5_allHold_1 rfl hl (by decide) rfl (fun ls hl => ?_)
  refine lv_iconst (v := 0) hx hb dX5_allHold_2 (by decide) ?_
  refine lv_istore_n (lv' := [(2, .int 0), (1, .int 1), (0, .ref (ad 0))]) hx hb dX5_allHold_3 rfl hl (by decide) rfl (fun ls hl => ?_)
  have hl : lv_has ls 3 [(2, .int (nI 0)), (1, .int (pm_bi (pm_all cm aN 0))), (0, .ref (ad 0))] := lv_sub hl [0, 1, 2] rfl
  refine xw_loop (pc := 4) (fun (i : Nat) => mm - i) (fun (i : Nat) ls H9 locs9 => (i ≤ mm) ∧ H9 = s.heap ∧ locs9 = [] ∧ lv_has ls 3 [(2, .int (nI i)), (1, .int (pm_bi (pm_all cm aN i))), (0, .ref (ad 0))]) ?_ 0 ls _ _ ⟨Nat.zero_le _, rfl, rfl, hl⟩
  intro i ls H9 locs9 ⟨hi, hH9, hL9, hl⟩ ih
  subst hH9
  subst hL9
  refine lv_iload_n hx hb dX5_allHold_4 rfl (lv_at hl 0 rfl) ?_
  refine lv_aload_n hx hb dX5_allHold_5 rfl (lv_at hl 2 rfl) ?_
  refine va_get (D := (dC, dI)) (ci := 3) (v := .int (nI mm)) (C := RX5) (T := TX5) (N := 14) hx hb hts (fun w h => List.mem_cons_of_mem _ (wf_X5 w h)) hown hK hP 0 rfl rfl 6 (by decide) (hts _ (List.mem_cons_of_mem _ wm_fl_X5_99)) (fun _ h9 => h9) rfl dX5_allHold_6 ?_
  refine lv_icmp_ge (tgt := 43) hx hb dX5_allHold_9 (by decide) (fun h1 => ?_) (fun h1 => ?_)
  · skip
    have h1 : mm ≤ i := (nI_leI (a := mm) (b := i) (by omega) (by omega)).mp h1
    refine lv_iload_n hx hb dX5_allHold_43 rfl (lv_at hl 1 rfl) ?_
    have etn : i = mm := by omega
    cases hq : pm_all cm aN i with
    | true =>
      exact W.zret (v := 1) hx hb hr rfl (fun t9 ht9 hW9 => ⟨1, rfl, Or.inl ⟨rfl, by rw [← etn]; exact hq⟩, ht9⟩) (fun q hq => by cases hq) dX5_allHold_44
    | false =>
      exact W.zret (v := 0) hx hb hr rfl (fun t9 ht9 hW9 => ⟨0, rfl, Or.inr ⟨rfl, by rw [← etn]; exact hq⟩, ht9⟩) (fun q hq => by cases hq) dX5_allHold_44
  · skip
    have h1 : ¬ mm ≤ i := fun z => h1 ((nI_leI (a := mm) (b := i) (by omega) (by omega)).mpr z)
    have hcm12 := hc12 i (by omega)
    cases hq : pm_all cm aN i with
    | true =>
      rw [hq] at hl
      have hl : lv_has ls 3 [(2, .int (nI i)), (1, .int 1), (0, .ref (ad 0))] := hl
      refine lv_iload_n hx hb dX5_allHold_12 rfl (lv_at hl 1 rfl) ?_
      refine lv_if_eq (tgt := 35) hx hb dX5_allHold_13 (by decide) (fun h2 => absurd h2 (by decide)) (fun _ => ?_)
      refine lv_aload_n hx hb dX5_allHold_16 rfl (lv_at hl 2 rfl) ?_
      refine va_get (D := (dC, dI)) (ci := 3) (v := .ref (ad 8)) (C := RX5) (T := TX5) (N := 14) hx hb hts (fun w h => List.mem_cons_of_mem _ (wf_X5 w h)) hown hK hP 0 rfl rfl 13 (by decide) (hts _ (List.mem_cons_of_mem _ wm_fl_X5_31)) (fun _ h9 => h9) rfl dX5_allHold_17 ?_
      refine lv_aload_n hx hb dX5_allHold_20 rfl (lv_at hl 2 rfl) ?_
      refine va_get (D := (dC, dI)) (ci := 3) (v := .ref (ad 5)) (C := RX5) (T := TX5) (N := 14) hx hb hts (fun w h => List.mem_cons_of_mem _ (wf_X5 w h)) hown hK hP 0 rfl rfl 7 (by decide) (hts _ (List.mem_cons_of_mem _ wm_fl_X5_22)) (fun _ h9 => h9) rfl dX5_allHold_21 ?_
      refine lv_iload_n hx hb dX5_allHold_24 rfl (lv_at hl 0 rfl) ?_
      refine xr_iald (t := i) (v := nI (cm i)) hx hb hK hP 5 0 rfl rfl (by omega) (by omega) (hcm i (by omega)) dX5_allHold_25 ?_
      refine xr_iald (t := cm i) (v := aN (cm i)) hx hb hK hP 8 0 rfl rfl (by omega) (by omega) (rfl) dX5_allHold_26 ?_
      refine lv_iconst (v := 1) hx hb dX5_allHold_27 (by decide) ?_
      refine lv_icmp_ne (tgt := 35) hx hb dX5_allHold_28 (by decide) (fun h3 => ?_) (fun h3 => ?_)
      · skip
        refine lv_iconst (v := 0) hx hb dX5_allHold_35 (by decide) ?_
        refine lv_istore_n (lv' := [(1, .int 0), (2, .int (nI i)), (0, .ref (ad 0))]) hx hb dX5_allHold_36 rfl hl (by decide) rfl (fun ls hl => ?_)
        refine lv_iinc (k := 1) (v := nI (i + 1)) (lv' := [(2, .int (nI (i + 1))), (1, .int 0), (0, .ref (ad 0))]) hx hb dX5_allHold_37 hl rfl (nI_1 i) (by decide) rfl (fun ls hl => ?_)
        refine lv_goto (tgt := 4) hx hb dX5_allHold_40 (by decide) ?_
        have ev : (0 : Int32) = pm_bi (pm_all cm aN (i + 1)) := by show _ = pm_bi (pm_all cm aN i && decide (aN (cm i) = 1)); rw [hq, decide_eq_false h3]; rfl
        have hl := lv_sub hl [0, 1, 2] rfl
        have hl : lv_has ls 3 [(2, .int (nI (i + 1))), (1, .int 0), (0, .ref (ad 0))] := hl
        rw [ev] at hl
        exact ih (i + 1) ls _ _ ⟨by omega, rfl, rfl, hl⟩ (by show mm - (i + 1) < mm - i; omega)
      · skip
        refine lv_iconst (v := 1) hx hb dX5_allHold_31 (by decide) ?_
        refine lv_goto (tgt := 36) hx hb dX5_allHold_32 (by decide) ?_
        refine lv_istore_n (lv' := [(1, .int 1), (2, .int (nI i)), (0, .ref (ad 0))]) hx hb dX5_allHold_36 rfl hl (by decide) rfl (fun ls hl => ?_)
        refine lv_iinc (k := 1) (v := nI (i + 1)) (lv' := [(2, .int (nI (i + 1))), (1, .int 1), (0, .ref (ad 0))]) hx hb dX5_allHold_37 hl rfl (nI_1 i) (by decide) rfl (fun ls hl => ?_)
        refine lv_goto (tgt := 4) hx hb dX5_allHold_40 (by decide) ?_
        have ev : (1 : Int32) = pm_bi (pm_all cm aN (i + 1)) := by show _ = pm_bi (pm_all cm aN i && decide (aN (cm i) = 1)); rw [hq, decide_eq_true h3]; rfl
        have hl := lv_sub hl [0, 1, 2] rfl
        have hl : lv_has ls 3 [(2, .int (nI (i + 1))), (1, .int 1), (0, .ref (ad 0))] := hl
        rw [ev] at hl
        exact ih (i + 1) ls _ _ ⟨by omega, rfl, rfl, hl⟩ (by show mm - (i + 1) < mm - i; omega)
    | false =>
      rw [hq] at hl
      have hl : lv_has ls 3 [(2, .int (nI i)), (1, .int 0), (0, .ref (ad 0))] := hl
      refine lv_iload_n hx hb dX5_allHold_12 rfl (lv_at hl 1 rfl) ?_
      refine lv_if_eq (tgt := 35) hx hb dX5_allHold_13 (by decide) (fun _ => ?_) (fun h4 => absurd (by decide) h4)
      refine lv_iconst (v := 0) hx hb dX5_allHold_35 (by decide) ?_
      refine lv_istore_n (lv' := [(1, .int 0), (2, .int (nI i)), (0, .ref (ad 0))]) hx hb dX5_allHold_36 rfl hl (by decide) rfl (fun ls hl => ?_)
      refine lv_iinc (k := 1) (v := nI (i + 1)) (lv' := [(2, .int (nI (i + 1))), (1, .int 0), (0, .ref (ad 0))]) hx hb dX5_allHold_37 hl rfl (nI_1 i) (by decide) rfl (fun ls hl => ?_)
      refine lv_goto (tgt := 4) hx hb dX5_allHold_40 (by decide) ?_
      have ev : (0 : Int32) = pm_bi (pm_all cm aN (i + 1)) := by show _ = pm_bi (pm_all cm aN i && decide (aN (cm i) = 1)); rw [hq]; rfl
      have hl := lv_sub hl [0, 1, 2] rfl
      have hl : lv_has ls 3 [(2, .int (nI (i + 1))), (1, .int 0), (0, .ref (ad 0))] := hl
      rw [ev] at hl
      exact ih (i + 1) ls _ _ ⟨by omega, rfl, rfl, hl⟩ (by show mm - (i + 1) < mm - i; omega)
set_option maxHeartbeats 4000000 in
set_option maxRecDepth 100000 in
theorem ctX5_value (sz : Nat) (hn : n ≤ 12) (fk fa fb fc : Nat → Nat) (hk : ∀ t, t < n → aK t = nI (fk t)) (ha : ∀ t, t < n → aA t = nI (fa t)) (hb2 : ∀ t, t < n → pv_s2 (fk t) ≠ 0 → aB t = nI (fb t)) (hc2 : ∀ t, t < n → pv_s3 (fk t) ≠ 0 → aC t = nI (fc t)) (hT : pv_TI fk fa fb fc n) (hfo : fo = 0 ∨ fo = 1) (z : Int32) : Met l yX5_value wsX5_value ({ frames := 5, cells := 0, slots := 0, locals := 115 }) (va_Pc [.ref (ad 0), .int z] (fun U => U.heap.size = sz ∧ va_P (dC, dI) vwCl (wM cI ad aK aA aB aC aM aS aF aN th ck fo n mm lv) U.heap ∧ va_K (dC, dI) vwCl [(cI, .int)] U ∧ va_D (fun _ => True) (wM cI ad aK aA aB aC aM aS aF aN th ck fo n mm lv))) (va_Qi (fun r u => (¬ (∃ j, j < n ∧ z = nI j) ∧ r = 0 ∧ u = (1, aN)) ∨ ((∃ j, j < n ∧ z = nI j) ∧ fo = 0 ∧ r = 0 ∧ u = (2, aN)) ∨ (fo = 1 ∧ u = (0, pv_ev fk fa fb fc (aF 0) (aF 1) aN n) ∧ ∃ j, j < n ∧ z = nI j ∧ r = pv_ev fk fa fb fc (aF 0) (aF 1) aN n j)) (fun (u : Int32 × (Nat → Int32)) t9 => va_P (dC, dI) vwCl (wM cI ad aK aA aB aC aM aS aF (u.2) (u.1) ck fo n mm lv) t9.heap ∧ va_K (dC, dI) vwCl [(cI, .int)] t9 ∧ va_D (va_A (wM cI ad aK aA aB aC aM aS aF aN th ck fo n mm lv) sz) (wM cI ad aK aA aB aC aM aS aF (u.2) (u.1) ck fo n mm lv)) (va_A (wM cI ad aK aA aB aC aM aS aF aN th ck fo n mm lv) sz)) 0 0 (va_A (wM cI ad aK aA aB aC aM aS aF aN th ck fo n mm lv) sz) := by
  refine Met.ofW (cc := cX5_value) (maxL := 2) (ret := (some .int)) (by decide) rfl ?_
  intro p e s m args below meth c s₁ B hml hv
  obtain ⟨rfl, hsz, hP, hK, hD0⟩ := hv
  subst hsz
  have hx := B.exec
  have hb := B.bytes
  have hr := B.returns
  have hts := atoms_spec (ws := wsX5_value) B.pre
  have hown : s.vm.findClass RX5 = some m.cls := findClass_of_methodNamed B.named
  have hlocks := B.notSynchronized
  have hl := lv_entry ([.ref (ad 0), .int z]) (n := 2) (Nat.le_of_ble_eq_true rfl)
  rw [lg_entry_eq]
  generalize (lg_sl ([.ref (ad 0), .int z]) ++ List.replicate (2 - (lg_sl ([.ref (ad 0), .int z])).length) Slot.unset).toArray = ls at hl ⊢
  have hl : lv_has ls 2 [(0, .ref (ad 0)), (1, .int z)] := hl
  have hD := hD0.self (sz := s.heap.size)
  generalize hAe : va_A (wM cI ad aK aA aB aC aM aS aF aN th ck fo n mm lv) s.heap.size = A9 at hD ⊢
  have hA : ∀ q : Nat, s.heap.size ≤ q → A9 q := fun q h => by rw [← hAe]; exact Or.inr h
  have hS : va_S A9 s.heap s.heap [] := va_S.rf
  refine lv_aload_n hx hb dX5_value_0 rfl (lv_at hl 0 rfl) ?_
  refine lv_iload_n hx hb dX5_value_1 rfl (lv_at hl 1 rfl) ?_
  refine lv_aload_n hx hb dX5_value_2 rfl (lv_at hl 0 rfl) ?_
  refine va_get (D := (dC, dI)) (ci := 3) (v := .int (nI n)) (C := RX5) (T := TX5) (N := 14) hx hb hts (fun w h => List.mem_cons_of_mem _ (wf_X5 w h)) hown hK hP 0 rfl rfl 1 (by decide) (hts _ (List.mem_cons_of_mem _ wm_fl_X5_76)) (fun _ h9 => h9) rfl dX5_value_3 ?_
  refine vp_callSi (W.runS (As := [.int z, .int (nI n)]) (rest := [.ref (ad 0)]) ⟨hx, hb, hml, hown, hts⟩ (ctX5_out l z (nI n)) (va_cwS 2 hts (wA_wsS wm_ml_X5_79 wm_st_X5_out wm_in_X5 wm_cd_X5_out) rfl rfl rfl (by decide +kernel) ⟨Nat.le_of_ble_eq_true rfl, Nat.le_of_ble_eq_true rfl⟩) ⟨fun a U g mk q => q, fun U hU hW => ⟨rfl, trivial⟩⟩ rfl rfl hl.1 rfl (lv_room (Nat.le_of_ble_eq_true rfl)) dX5_value_6 ⟨Nat.zero_le _, Nat.zero_le _⟩) (fun r1 er1 => ?_)
  by_cases hin : ∃ j, j < n ∧ z = nI j
  · obtain ⟨j, hj, rfl⟩ := hin
    have er1 := er1.trans (pm_out_y (n := n) (by omega) hj)
    subst er1
    refine lv_if_eq (tgt := 16) hx hb dX5_value_9 (by decide) (fun _ => ?_) (fun h2 => absurd (by decide) h2)
    refine lv_aload_n hx hb dX5_value_16 rfl (lv_at hl 0 rfl) ?_
    refine va_get (D := (dC, dI)) (ci := 3) (v := .int fo) (C := RX5) (T := TX5) (N := 14) hx hb hts (fun w h => List.mem_cons_of_mem _ (wf_X5 w h)) hown hK hP 0 rfl rfl 11 (by decide) (hts _ (List.mem_cons_of_mem _ wm_fl_X5_108)) (fun _ h9 => h9) rfl dX5_value_17 ?_
    rcases hfo with rfl | rfl
    · skip
      refine lv_if_eq (tgt := 27) hx hb dX5_value_20 (by decide) (fun _ => ?_) (fun h3 => absurd (by decide) h3)
      refine lv_iconst (v := 2) hx hb dX5_value_27 (by decide) ?_
      refine va_put (D := (dC, dI)) (ci := 3) (v := .int 2) (ty := .int) (C := RX5) (T := TX5) (N := 14) hx hb hts (fun w h => List.mem_cons_of_mem _ (wf_X5 w h)) tyX5 tyX5_ok nmX5 hown hK hP hD hS 0 rfl rfl 0 (by decide) (hts _ (List.mem_cons_of_mem _ wm_fl_X5_34)) (fun _ h9 => h9) rfl (by decide +kernel) rfl rfl (Nat.le_of_ble_eq_true rfl) dX5_value_28 (fun H locs hP hD hS => ?_)
      have hP : va_P (dC, dI) vwCl [(ad 0, .inr (3, [.int 2, .int (nI n), .ref (ad 1), .ref (ad 2), .ref (ad 3), .ref (ad 4), .int (nI mm), .ref (ad 5), .int (nI lv), .ref (ad 6), .int ck, .int 0, .ref (ad 7), .ref (ad 8)])), (ad 1, .inl (cI, 12, .inl aK)), (ad 2, .inl (cI, 12, .inl aA)), (ad 3, .inl (cI, 12, .inl aB)), (ad 4, .inl (cI, 12, .inl aC)), (ad 5, .inl (cI, 20, .inl aM)), (ad 6, .inl (cI, 6, .inl aS)), (ad 7, .inl (cI, 2, .inl aF)), (ad 8, .inl (cI, 12, .inl aN))] H := hP
      have hD : va_D A9 [(ad 0, .inr (3, [.int 2, .int (nI n), .ref (ad 1), .ref (ad 2), .ref (ad 3), .ref (ad 4), .int (nI mm), .ref (ad 5), .int (nI lv), .ref (ad 6), .int ck, .int 0, .ref (ad 7), .ref (ad 8)])), (ad 1, .inl (cI, 12, .inl aK)), (ad 2, .inl (cI, 12, .inl aA)), (ad 3, .inl (cI, 12, .inl aB)), (ad 4, .inl (cI, 12, .inl aC)), (ad 5, .inl (cI, 20, .inl aM)), (ad 6, .inl (cI, 6, .inl aS)), (ad 7, .inl (cI, 2, .inl aF)), (ad 8, .inl (cI, 12, .inl aN))] := hD
      refine lv_aload_n hx hb dX5_value_31 rfl (lv_at hl 0 rfl) ?_
      refine va_get (D := (dC, dI)) (ci := 3) (v := .int 2) (C := RX5) (T := TX5) (N := 14) hx hb hts (fun w h => List.mem_cons_of_mem _ (wf_X5 w h)) hown hK hP 0 rfl rfl 0 (by decide) (hts _ (List.mem_cons_of_mem _ wm_fl_X5_34)) (fun _ h9 => h9) rfl dX5_value_32 ?_
      refine lv_if_le (tgt := 40) hx hb dX5_value_35 (by decide) (fun h4 => absurd h4 (by decide)) (fun _ => ?_)
      refine lv_iconst (v := 0) hx hb dX5_value_38 (by decide) ?_
      exact W.iret (v := 0) hx hb hr (fun t9 ht9 hW9 => ⟨⟨0, (2, aN), rfl, Or.inr (Or.inl ⟨⟨j, hj, rfl⟩, rfl, rfl, rfl⟩), by rw [ht9]; exact hP, va_K.moved hW9.alike hK, hD⟩, hS.F ht9⟩) hS.2.2 dX5_value_39
    · skip
      refine lv_if_eq (tgt := 27) hx hb dX5_value_20 (by decide) (fun h5 => absurd h5 (by decide)) (fun _ => ?_)
      refine lv_iconst (v := 0) hx hb dX5_value_23 (by decide) ?_
      refine lv_goto (tgt := 28) hx hb dX5_value_24 (by decide) ?_
      refine va_put (D := (dC, dI)) (ci := 3) (v := .int 0) (ty := .int) (C := RX5) (T := TX5) (N := 14) hx hb hts (fun w h => List.mem_cons_of_mem _ (wf_X5 w h)) tyX5 tyX5_ok nmX5 hown hK hP hD hS 0 rfl rfl 0 (by decide) (hts _ (List.mem_cons_of_mem _ wm_fl_X5_34)) (fun _ h9 => h9) rfl (by decide +kernel) rfl rfl (Nat.le_of_ble_eq_true rfl) dX5_value_28 (fun H locs hP hD hS => ?_)
      have hP : va_P (dC, dI) vwCl [(ad 0, .inr (3, [.int 0, .int (nI n), .ref (ad 1), .ref (ad 2), .ref (ad 3), .ref (ad 4), .int (nI mm), .ref (ad 5), .int (nI lv), .ref (ad 6), .int ck, .int 1, .ref (ad 7), .ref (ad 8)])), (ad 1, .inl (cI, 12, .inl aK)), (ad 2, .inl (cI, 12, .inl aA)), (ad 3, .inl (cI, 12, .inl aB)), (ad 4, .inl (cI, 12, .inl aC)), (ad 5, .inl (cI, 20, .inl aM)), (ad 6, .inl (cI, 6, .inl aS)), (ad 7, .inl (cI, 2, .inl aF)), (ad 8, .inl (cI, 12, .inl aN))] H := hP
      have hD : va_D A9 [(ad 0, .inr (3, [.int 0, .int (nI n), .ref (ad 1), .ref (ad 2), .ref (ad 3), .ref (ad 4), .int (nI mm), .ref (ad 5), .int (nI lv), .ref (ad 6), .int ck, .int 1, .ref (ad 7), .ref (ad 8)])), (ad 1, .inl (cI, 12, .inl aK)), (ad 2, .inl (cI, 12, .inl aA)), (ad 3, .inl (cI, 12, .inl aB)), (ad 4, .inl (cI, 12, .inl aC)), (ad 5, .inl (cI, 20, .inl aM)), (ad 6, .inl (cI, 6, .inl aS)), (ad 7, .inl (cI, 2, .inl aF)), (ad 8, .inl (cI, 12, .inl aN))] := hD
      refine lv_aload_n hx hb dX5_value_31 rfl (lv_at hl 0 rfl) ?_
      refine va_get (D := (dC, dI)) (ci := 3) (v := .int 0) (C := RX5) (T := TX5) (N := 14) hx hb hts (fun w h => List.mem_cons_of_mem _ (wf_X5 w h)) hown hK hP 0 rfl rfl 0 (by decide) (hts _ (List.mem_cons_of_mem _ wm_fl_X5_34)) (fun _ h9 => h9) rfl dX5_value_32 ?_
      refine lv_if_le (tgt := 40) hx hb dX5_value_35 (by decide) (fun _ => ?_) (fun h6 => absurd (by decide) h6)
      refine lv_aload_n hx hb dX5_value_40 rfl (lv_at hl 0 rfl) ?_
      refine lv_aload_n hx hb dX5_value_41 rfl (lv_at hl 0 rfl) ?_
      refine va_get (D := (dC, dI)) (ci := 3) (v := .ref (ad 7)) (C := RX5) (T := TX5) (N := 14) hx hb hts (fun w h => List.mem_cons_of_mem _ (wf_X5 w h)) hown hK hP 0 rfl rfl 12 (by decide) (hts _ (List.mem_cons_of_mem _ wm_fl_X5_28)) (fun _ h9 => h9) rfl dX5_value_42 ?_
      refine lv_iconst (v := nI 0) hx hb dX5_value_45 (by decide) ?_
      refine xr_iald (t := 0) (v := aF 0) hx hb hK hP 7 0 rfl rfl (by omega) (by omega) (rfl) dX5_value_46 ?_
      refine lv_aload_n hx hb dX5_value_47 rfl (lv_at hl 0 rfl) ?_
      refine va_get (D := (dC, dI)) (ci := 3) (v := .ref (ad 7)) (C := RX5) (T := TX5) (N := 14) hx hb hts (fun w h => List.mem_cons_of_mem _ (wf_X5 w h)) hown hK hP 0 rfl rfl 12 (by decide) (hts _ (List.mem_cons_of_mem _ wm_fl_X5_28)) (fun _ h9 => h9) rfl dX5_value_48 ?_
      refine lv_iconst (v := nI 1) hx hb dX5_value_51 (by decide) ?_
      refine xr_iald (t := 1) (v := aF 1) hx hb hK hP 7 0 rfl rfl (by omega) (by omega) (rfl) dX5_value_52 ?_
      have hP : va_P (dC, dI) vwCl (wM cI ad aK aA aB aC aM aS aF aN 0 ck 1 n mm lv) H := hP
      have hD : va_D A9 (wM cI ad aK aA aB aC aM aS aF aN 0 ck 1 n mm lv) := hD
      have hPc := hP.sub (ws' := (wM cI ad aK aA aB aC aM aS aF aN 0 ck 1 n mm lv)) [0, 1, 2, 3, 4, 5, 6, 7, 8] rfl
      have hDc := hD.sub (ws' := (wM cI ad aK aA aB aC aM aS aF aN 0 ck 1 n mm lv)) [0, 1, 2, 3, 4, 5, 6, 7, 8] (by decide) rfl
      have hFc := va_free (wc := (wM cI ad aK aA aB aC aM aS aF aN 0 ck 1 n mm lv)) hD hS hA [0, 1, 2, 3, 4, 5, 6, 7, 8] rfl
      refine va_callv (va_runV (C := RX5) (b := ad 0) (As := [.int (aF 0), .int (aF 1)]) (rest := []) ⟨hx, hb, hml, hown, hts⟩ (ctX5_reckonAll l dC dI cI ad aK aA aB aC aM aS aF aN 0 ck 1 n mm lv H.size hn fk fa fb fc hk ha hb2 hc2 hT (aF 0) (aF 1)) (cwV 2 hts (wA_wsV wm_ml_X5_112 wm_im_X5_reckonAll wm_se_X5_reckonAll wm_in_X5 wm_cd_X5_reckonAll) rfl rfl rfl (by decide +kernel) ⟨Nat.le_of_ble_eq_true rfl, Nat.le_of_ble_eq_true rfl⟩) ⟨fun a U g mk q => by obtain ⟨q0, q1, qP, qK, qD⟩ := q; exact ⟨q0, q1, qP, va_K.moved (u := U) (U := U.calling g mk a) (Vm.Alike.refl U.vm) qK, qD⟩, va_recv (q := (RX5, TX5, 14)) (q0 := 0) hK hP rfl rfl, fun U hU hW => ⟨rfl, by rw [hU], by rw [hU]; exact hPc, va_K.moved hW.alike hK, hDc.weaken (fun _ _ _ _ => trivial)⟩⟩ rfl rfl hl.1 rfl (lv_room (Nat.le_of_ble_eq_true rfl)) dX5_value_53 ⟨Nat.zero_le _, Nat.zero_le _⟩) hS (fun q _ h => hFc q h) hFc (fun u t8 H1 locs ht8 hvm8 er7 hB hz1 hk1 hS => ?_)
      obtain ⟨hP1, hK1, hD1⟩ := hB
      rw [ht8] at hP1
      obtain ⟨hP, hD⟩ := va_join (wr := []) (w1 := [(ad 0, .inr (3, [.int 0, .int (nI n), .ref (ad 1), .ref (ad 2), .ref (ad 3), .ref (ad 4), .int (nI mm), .ref (ad 5), .int (nI lv), .ref (ad 6), .int ck, .int 1, .ref (ad 7), .ref (ad 8)])), (ad 1, .inl (cI, 12, .inl aK)), (ad 2, .inl (cI, 12, .inl aA)), (ad 3, .inl (cI, 12, .inl aB)), (ad 4, .inl (cI, 12, .inl aC)), (ad 5, .inl (cI, 20, .inl aM)), (ad 6, .inl (cI, 6, .inl aS)), (ad 7, .inl (cI, 2, .inl aF)), (ad 8, .inl (cI, 12, .inl (pv_ev fk fa fb fc (aF 0) (aF 1) aN n)))]) hP hD [0, 1, 2, 3, 4, 5, 6, 7, 8] [] rfl rfl (by decide) (by decide) hk1 hFc hP1 hD1
      clear hPc hDc hFc hP1 hK1 hD1 hk1 hz1
      generalize H1 = H at hP hS ⊢
      have hP : va_P (dC, dI) vwCl [(ad 0, .inr (3, [.int 0, .int (nI n), .ref (ad 1), .ref (ad 2), .ref (ad 3), .ref (ad 4), .int (nI mm), .ref (ad 5), .int (nI lv), .ref (ad 6), .int ck, .int 1, .ref (ad 7), .ref (ad 8)])), (ad 1, .inl (cI, 12, .inl aK)), (ad 2, .inl (cI, 12, .inl aA)), (ad 3, .inl (cI, 12, .inl aB)), (ad 4, .inl (cI, 12, .inl aC)), (ad 5, .inl (cI, 20, .inl aM)), (ad 6, .inl (cI, 6, .inl aS)), (ad 7, .inl (cI, 2, .inl aF)), (ad 8, .inl (cI, 12, .inl (pv_ev fk fa fb fc (aF 0) (aF 1) aN n)))] H := hP
      have hD : va_D A9 [(ad 0, .inr (3, [.int 0, .int (nI n), .ref (ad 1), .ref (ad 2), .ref (ad 3), .ref (ad 4), .int (nI mm), .ref (ad 5), .int (nI lv), .ref (ad 6), .int ck, .int 1, .ref (ad 7), .ref (ad 8)])), (ad 1, .inl (cI, 12, .inl aK)), (ad 2, .inl (cI, 12, .inl aA)), (ad 3, .inl (cI, 12, .inl aB)), (ad 4, .inl (cI, 12, .inl aC)), (ad 5, .inl (cI, 20, .inl aM)), (ad 6, .inl (cI, 6, .inl aS)), (ad 7, .inl (cI, 2, .inl aF)), (ad 8, .inl (cI, 12, .inl (pv_ev fk fa fb fc (aF 0) (aF 1) aN n)))] := hD
      refine lv_aload_n hx hb dX5_value_56 rfl (lv_at hl 0 rfl) ?_
      refine va_get (D := (dC, dI)) (ci := 3) (v := .ref (ad 8)) (C := RX5) (T := TX5) (N := 14) hx hb hts (fun w h => List.mem_cons_of_mem _ (wf_X5 w h)) hown hK hP 0 rfl rfl 13 (by decide) (hts _ (List.mem_cons_of_mem _ wm_fl_X5_31)) (fun _ h9 => h9) rfl dX5_value_57 ?_
      refine lv_iload_n hx hb dX5_value_60 rfl (lv_at hl 1 rfl) ?_
      refine xr_iald (t := j) (v := (pv_ev fk fa fb fc (aF 0) (aF 1) aN n) j) hx hb hK hP 8 0 rfl rfl (by omega) (by omega) (rfl) dX5_value_61 ?_
      exact W.iret (v := (pv_ev fk fa fb fc (aF 0) (aF 1) aN n) j) hx hb hr (fun t9 ht9 hW9 => ⟨⟨(pv_ev fk fa fb fc (aF 0) (aF 1) aN n) j, (0, pv_ev fk fa fb fc (aF 0) (aF 1) aN n), rfl, Or.inr (Or.inr ⟨rfl, rfl, j, hj, rfl, rfl⟩), by rw [ht9]; exact hP, va_K.moved hW9.alike hK, hD⟩, hS.F ht9⟩) hS.2.2 dX5_value_62
  · have er1 := er1.trans (pm_out_no (n := n) (by omega) hin)
    subst er1
    refine lv_if_eq (tgt := 16) hx hb dX5_value_9 (by decide) (fun h8 => absurd h8 (by decide)) (fun _ => ?_)
    refine lv_iconst (v := 1) hx hb dX5_value_12 (by decide) ?_
    refine lv_goto (tgt := 28) hx hb dX5_value_13 (by decide) ?_
    refine va_put (D := (dC, dI)) (ci := 3) (v := .int 1) (ty := .int) (C := RX5) (T := TX5) (N := 14) hx hb hts (fun w h => List.mem_cons_of_mem _ (wf_X5 w h)) tyX5 tyX5_ok nmX5 hown hK hP hD hS 0 rfl rfl 0 (by decide) (hts _ (List.mem_cons_of_mem _ wm_fl_X5_34)) (fun _ h9 => h9) rfl (by decide +kernel) rfl rfl (Nat.le_of_ble_eq_true rfl) dX5_value_28 (fun H locs hP hD hS => ?_)
    have hP : va_P (dC, dI) vwCl [(ad 0, .inr (3, [.int 1, .int (nI n), .ref (ad 1), .ref (ad 2), .ref (ad 3), .ref (ad 4), .int (nI mm), .ref (ad 5), .int (nI lv), .ref (ad 6), .int ck, .int fo, .ref (ad 7), .ref (ad 8)])), (ad 1, .inl (cI, 12, .inl aK)), (ad 2, .inl (cI, 12, .inl aA)), (ad 3, .inl (cI, 12, .inl aB)), (ad 4, .inl (cI, 12, .inl aC)), (ad 5, .inl (cI, 20, .inl aM)), (ad 6, .inl (cI, 6, .inl aS)), (ad 7, .inl (cI, 2, .inl aF)), (ad 8, .inl (cI, 12, .inl aN))] H := hP
    have hD : va_D A9 [(ad 0, .inr (3, [.int 1, .int (nI n), .ref (ad 1), .ref (ad 2), .ref (ad 3), .ref (ad 4), .int (nI mm), .ref (ad 5), .int (nI lv), .ref (ad 6), .int ck, .int fo, .ref (ad 7), .ref (ad 8)])), (ad 1, .inl (cI, 12, .inl aK)), (ad 2, .inl (cI, 12, .inl aA)), (ad 3, .inl (cI, 12, .inl aB)), (ad 4, .inl (cI, 12, .inl aC)), (ad 5, .inl (cI, 20, .inl aM)), (ad 6, .inl (cI, 6, .inl aS)), (ad 7, .inl (cI, 2, .inl aF)), (ad 8, .inl (cI, 12, .inl aN))] := hD
    refine lv_aload_n hx hb dX5_value_31 rfl (lv_at hl 0 rfl) ?_
    refine va_get (D := (dC, dI)) (ci := 3) (v := .int 1) (C := RX5) (T := TX5) (N := 14) hx hb hts (fun w h => List.mem_cons_of_mem _ (wf_X5 w h)) hown hK hP 0 rfl rfl 0 (by decide) (hts _ (List.mem_cons_of_mem _ wm_fl_X5_34)) (fun _ h9 => h9) rfl dX5_value_32 ?_
    refine lv_if_le (tgt := 40) hx hb dX5_value_35 (by decide) (fun h9 => absurd h9 (by decide)) (fun _ => ?_)
    refine lv_iconst (v := 0) hx hb dX5_value_38 (by decide) ?_
    exact W.iret (v := 0) hx hb hr (fun t9 ht9 hW9 => ⟨⟨0, (1, aN), rfl, Or.inl ⟨hin, rfl, rfl⟩, by rw [ht9]; exact hP, va_K.moved hW9.alike hK, hD⟩, hS.F ht9⟩) hS.2.2 dX5_value_39
end MD3
