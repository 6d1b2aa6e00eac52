set_option maxHeartbeats 4000000 in
set_option maxRecDepth 100000 in
theorem ctX1_add (l : Launch) (x y : Int32) : Met l yX1_add wsX1_add ({ frames := 1, cells := 0, slots := 0, locals := 24 }) (va_Pc [.int x, .int y] (fun _ => True)) (vp_Si (fun r => r = pu_add x y)) 0 0 (fun _ => False) := by
  refine Met.ofW (cc := cX1_add) (maxL := 3) (ret := (some .int)) (by decide) rfl ?_
  intro p e s m args below meth c s₁ B hml hv
  obtain ⟨rfl, -⟩ := hv
  have hx := B.exec
  have hb := B.bytes
  have hr := B.returns
  have hts := atoms_spec (ws := wsX1_add) B.pre
  have hown : s.vm.findClass RX1 = some m.cls := findClass_of_methodNamed B.named
  have hlocks := B.notSynchronized
  have hl := lv_entry ([.int x, .int y]) (n := 3) (Nat.le_of_ble_eq_true rfl)
  rw [lg_entry_eq]
  generalize (lg_sl ([.int x, .int y]) ++ List.replicate (3 - (lg_sl ([.int x, .int y])).length) Slot.unset).toArray = ls at hl ⊢
  have hl : lv_has ls 3 [(0, .int x), (1, .int y)] := hl
  refine lv_iload_n hx hb dX1_add_0 rfl (lv_at hl 0 rfl) ?_
  refine vp_callSi (W.runS (As := [.int x]) (rest := []) ⟨hx, hb, hml, hown, hts⟩ (ctX1_isNan l x) (va_cwS 1 hts (wA_wsS wm_ml_X1_22 wm_st_X1_isNan wm_in_X1 wm_cd_X1_isNan) rfl rfl rfl (by decide +kernel) ⟨Nat.le_of_ble_eq_true rfl, Nat.le_of_ble_eq_true rfl⟩) ⟨fun a U g mk q => q, fun U hU hW => ⟨rfl, trivial⟩⟩ rfl rfl hl.1 rfl (lv_room (Nat.le_of_ble_eq_true rfl)) dX1_add_1 ⟨Nat.zero_le _, Nat.zero_le _⟩) (fun r1 er1 => ?_)
  subst er1
  refine lv_if_ne (tgt := 14) hx hb dX1_add_4 (by decide) (fun h2 => ?_) (fun h2 => ?_)
  · skip
    refine lv_bipush (v := 13) hx hb dX1_add_14 (by decide) ?_
    exact W.iret (v := 13) hx hb hr (fun t ht hW => ⟨13, rfl, by first | (simp only [pu_add, pu_abs, h2, ↓reduceIte, not_true_eq_false, not_false_eq_true, and_true, true_and, and_false, false_and, or_true, true_or, or_false, false_or, and_self, or_self]; done) | (simp [pu_add, pu_abs, h2]; done) | (simp_all [pu_add, pu_abs]; done), ht⟩) (fun q hq => by cases hq) dX1_add_16
  · skip
    refine lv_iload_n hx hb dX1_add_7 rfl (lv_at hl 1 rfl) ?_
    refine vp_callSi (W.runS (As := [.int y]) (rest := []) ⟨hx, hb, hml, hown, hts⟩ (ctX1_isNan l y) (va_cwS 1 hts (wA_wsS wm_ml_X1_22 wm_st_X1_isNan wm_in_X1 wm_cd_X1_isNan) rfl rfl rfl (by decide +kernel) ⟨Nat.le_of_ble_eq_true rfl, Nat.le_of_ble_eq_true rfl⟩) ⟨fun a U g mk q => q, fun U hU hW => ⟨rfl, trivial⟩⟩ rfl rfl hl.1 rfl (lv_room (Nat.le_of_ble_eq_true rfl)) dX1_add_8 ⟨Nat.zero_le _, Nat.zero_le _⟩) (fun r3 er3 => ?_)
    subst er3
    refine lv_if_eq (tgt := 17) hx hb dX1_add_11 (by decide) (fun h4 => ?_) (fun h4 => ?_)
    · skip
      refine lv_iload_n hx hb dX1_add_17 rfl (lv_at hl 0 rfl) ?_
      refine vp_callSi (W.runS (As := [.int x]) (rest := []) ⟨hx, hb, hml, hown, hts⟩ (ctX1_isInfinite l x) (va_cwS 1 hts (wA_wsS wm_ml_X1_33 wm_st_X1_isInfinite wm_in_X1 wm_cd_X1_isInfinite) rfl rfl rfl (by decide +kernel) ⟨Nat.le_of_ble_eq_true rfl, Nat.le_of_ble_eq_true rfl⟩) ⟨fun a U g mk q => q, fun U hU hW => ⟨rfl, trivial⟩⟩ rfl rfl hl.1 rfl (lv_room (Nat.le_of_ble_eq_true rfl)) dX1_add_18 ⟨Nat.zero_le _, Nat.zero_le _⟩) (fun r5 er5 => ?_)
      subst er5
      refine lv_if_eq (tgt := 43) hx hb dX1_add_21 (by decide) (fun h6 => ?_) (fun h6 => ?_)
      · skip
        refine lv_iload_n hx hb dX1_add_43 rfl (lv_at hl 1 rfl) ?_
        refine vp_callSi (W.runS (As := [.int y]) (rest := []) ⟨hx, hb, hml, hown, hts⟩ (ctX1_isInfinite l y) (va_cwS 1 hts (wA_wsS wm_ml_X1_33 wm_st_X1_isInfinite wm_in_X1 wm_cd_X1_isInfinite) rfl rfl rfl (by decide +kernel) ⟨Nat.le_of_ble_eq_true rfl, Nat.le_of_ble_eq_true rfl⟩) ⟨fun a U g mk q => q, fun U hU hW => ⟨rfl, trivial⟩⟩ rfl rfl hl.1 rfl (lv_room (Nat.le_of_ble_eq_true rfl)) dX1_add_44 ⟨Nat.zero_le _, Nat.zero_le _⟩) (fun r7 er7 => ?_)
        subst er7
        refine lv_if_eq (tgt := 52) hx hb dX1_add_47 (by decide) (fun h8 => ?_) (fun h8 => ?_)
        · skip
          refine lv_iload_n hx hb dX1_add_52 rfl (lv_at hl 0 rfl) ?_
          refine vp_callSi (W.runS (As := [.int x]) (rest := []) ⟨hx, hb, hml, hown, hts⟩ (ctX1_signedQuarters l x) (va_cwS 1 hts (wA_wsS wm_ml_X1_39 wm_st_X1_signedQuarters wm_in_X1 wm_cd_X1_signedQuarters) rfl rfl rfl (by decide +kernel) ⟨Nat.le_of_ble_eq_true rfl, Nat.le_of_ble_eq_true rfl⟩) ⟨fun a U g mk q => q, fun U hU hW => ⟨rfl, trivial⟩⟩ rfl rfl hl.1 rfl (lv_room (Nat.le_of_ble_eq_true rfl)) dX1_add_53 ⟨Nat.zero_le _, Nat.zero_le _⟩) (fun r9 er9 => ?_)
          subst er9
          refine lv_iload_n hx hb dX1_add_56 rfl (lv_at hl 1 rfl) ?_
          refine vp_callSi (W.runS (As := [.int y]) (rest := [.int (pu_sq x)]) ⟨hx, hb, hml, hown, hts⟩ (ctX1_signedQuarters l y) (va_cwS 1 hts (wA_wsS wm_ml_X1_39 wm_st_X1_signedQuarters wm_in_X1 wm_cd_X1_signedQuarters) rfl rfl rfl (by decide +kernel) ⟨Nat.le_of_ble_eq_true rfl, Nat.le_of_ble_eq_true rfl⟩) ⟨fun a U g mk q => q, fun U hU hW => ⟨rfl, trivial⟩⟩ rfl rfl hl.1 rfl (lv_room (Nat.le_of_ble_eq_true rfl)) dX1_add_57 ⟨Nat.zero_le _, Nat.zero_le _⟩) (fun r10 er10 => ?_)
          subst er10
          refine lv_iadd hx hb dX1_add_60 ?_
          refine lv_istore_n (lv' := [(2, .int ((pu_sq x) + (pu_sq y))), (0, .int x), (1, .int y)]) hx hb dX1_add_61 rfl hl (by decide) rfl (fun ls hl => ?_)
          refine lv_iload_n hx hb dX1_add_62 rfl (lv_at hl 0 rfl) ?_
          refine lv_if_ne (tgt := 85) hx hb dX1_add_63 (by decide) (fun h11 => ?_) (fun h11 => ?_)
          · skip
            refine lv_iload_n hx hb dX1_add_85 rfl (lv_at hl 0 rfl) ?_
            refine lv_if_ge (tgt := 94) hx hb dX1_add_86 (by decide) (fun h12 => ?_) (fun h12 => ?_)
            · skip
              have h12b := Int32.not_lt.mpr h12
              refine lv_iconst (v := 0) hx hb dX1_add_94 (by decide) ?_
              refine lv_iconst (v := 4) hx hb dX1_add_95 (by decide) ?_
              refine lv_iload_n hx hb dX1_add_96 rfl (lv_at hl 0 rfl) ?_
              refine va_mabs hx hb (by rw [hml]; exact hl.1.symm) hown (hts _ (List.mem_cons_of_mem _ wm_ml_X1_42)) (hts _ (List.mem_cons_of_mem _ wm_st_abs)) (hts _ (List.mem_cons_of_mem _ wm_in_Math)) (hts _ (List.mem_cons_of_mem _ wm_cd_abs)) (Nat.le_of_ble_eq_true rfl) (Nat.le_of_ble_eq_true rfl) (Nat.zero_le _) (Nat.zero_le _) dX1_add_97 ?_
              refine lv_imul hx hb dX1_add_100 ?_
              refine vp_callSi (W.runS (As := [.int (4 * (if 0 ≤ ((pu_sq x) + (pu_sq y)) then ((pu_sq x) + (pu_sq y)) else 0 - ((pu_sq x) + (pu_sq y))))]) (rest := [.int 0]) ⟨hx, hb, hml, hown, hts⟩ (ctX1_rounded l (4 * (if 0 ≤ ((pu_sq x) + (pu_sq y)) then ((pu_sq x) + (pu_sq y)) else 0 - ((pu_sq x) + (pu_sq y))))) (va_cwS 1 hts (wA_wsS wm_ml_X1_47 wm_st_X1_rounded wm_in_X1 wm_cd_X1_rounded) rfl rfl rfl (by decide +kernel) ⟨Nat.le_of_ble_eq_true rfl, Nat.le_of_ble_eq_true rfl⟩) ⟨fun a U g mk q => q, fun U hU hW => ⟨rfl, trivial⟩⟩ rfl rfl hl.1 rfl (lv_room (Nat.le_of_ble_eq_true rfl)) dX1_add_101 ⟨Nat.zero_le _, Nat.zero_le _⟩) (fun r13 er13 => ?_)
              subst er13
              refine lv_ior hx hb dX1_add_104 ?_
              exact W.iret (v := 0 ||| (pu_rnd (4 * (if 0 ≤ ((pu_sq x) + (pu_sq y)) then ((pu_sq x) + (pu_sq y)) else 0 - ((pu_sq x) + (pu_sq y)))))) hx hb hr (fun t ht hW => ⟨0 ||| (pu_rnd (4 * (if 0 ≤ ((pu_sq x) + (pu_sq y)) then ((pu_sq x) + (pu_sq y)) else 0 - ((pu_sq x) + (pu_sq y))))), rfl, by first | (simp only [pu_add, pu_abs, h2, h4, h6, h8, h11, h12, h12b, ↓reduceIte, not_true_eq_false, not_false_eq_true, and_true, true_and, and_false, false_and, or_true, true_or, or_false, false_or, and_self, or_self]; done) | (simp [pu_add, pu_abs, h2, h4, h6, h8, h11, h12, h12b]; done) | (simp_all [pu_add, pu_abs]; done), ht⟩) (fun q hq => by cases hq) dX1_add_105
            · skip
              have h12b := Int32.not_le.mp h12
              refine lv_bipush (v := 16) hx hb dX1_add_89 (by decide) ?_
              refine lv_goto (tgt := 95) hx hb dX1_add_91 (by decide) ?_
              refine lv_iconst (v := 4) hx hb dX1_add_95 (by decide) ?_
              refine lv_iload_n hx hb dX1_add_96 rfl (lv_at hl 0 rfl) ?_
              refine va_mabs hx hb (by rw [hml]; exact hl.1.symm) hown (hts _ (List.mem_cons_of_mem _ wm_ml_X1_42)) (hts _ (List.mem_cons_of_mem _ wm_st_abs)) (hts _ (List.mem_cons_of_mem _ wm_in_Math)) (hts _ (List.mem_cons_of_mem _ wm_cd_abs)) (Nat.le_of_ble_eq_true rfl) (Nat.le_of_ble_eq_true rfl) (Nat.zero_le _) (Nat.zero_le _) dX1_add_97 ?_
              refine lv_imul hx hb dX1_add_100 ?_
              refine vp_callSi (W.runS (As := [.int (4 * (if 0 ≤ ((pu_sq x) + (pu_sq y)) then ((pu_sq x) + (pu_sq y)) else 0 - ((pu_sq x) + (pu_sq y))))]) (rest := [.int 16]) ⟨hx, hb, hml, hown, hts⟩ (ctX1_rounded l (4 * (if 0 ≤ ((pu_sq x) + (pu_sq y)) then ((pu_sq x) + (pu_sq y)) else 0 - ((pu_sq x) + (pu_sq y))))) (va_cwS 1 hts (wA_wsS wm_ml_X1_47 wm_st_X1_rounded wm_in_X1 wm_cd_X1_rounded) rfl rfl rfl (by decide +kernel) ⟨Nat.le_of_ble_eq_true rfl, Nat.le_of_ble_eq_true rfl⟩) ⟨fun a U g mk q => q, fun U hU hW => ⟨rfl, trivial⟩⟩ rfl rfl hl.1 rfl (lv_room (Nat.le_of_ble_eq_true rfl)) dX1_add_101 ⟨Nat.zero_le _, Nat.zero_le _⟩) (fun r14 er14 => ?_)
              subst er14
              refine lv_ior hx hb dX1_add_104 ?_
              exact W.iret (v := 16 ||| (pu_rnd (4 * (if 0 ≤ ((pu_sq x) + (pu_sq y)) then ((pu_sq x) + (pu_sq y)) else 0 - ((pu_sq x) + (pu_sq y)))))) hx hb hr (fun t ht hW => ⟨16 ||| (pu_rnd (4 * (if 0 ≤ ((pu_sq x) + (pu_sq y)) then ((pu_sq x) + (pu_sq y)) else 0 - ((pu_sq x) + (pu_sq y))))), rfl, by first | (simp only [pu_add, pu_abs, h2, h4, h6, h8, h11, h12, h12b, ↓reduceIte, not_true_eq_false, not_false_eq_true, and_true, true_and, and_false, false_and, or_true, true_or, or_false, false_or, and_self, or_self]; done) | (simp [pu_add, pu_abs, h2, h4, h6, h8, h11, h12, h12b]; done) | (simp_all [pu_add, pu_abs]; done), ht⟩) (fun q hq => by cases hq) dX1_add_105
          · skip
            refine lv_iload_n hx hb dX1_add_66 rfl (lv_at hl 1 rfl) ?_
            refine lv_bipush (v := 16) hx hb dX1_add_67 (by decide) ?_
            refine lv_icmp_ne (tgt := 83) hx hb dX1_add_69 (by decide) (fun h15 => ?_) (fun h15 => ?_)
            · skip
              refine lv_iconst (v := 0) hx hb dX1_add_83 (by decide) ?_
              exact W.iret (v := 0) hx hb hr (fun t ht hW => ⟨0, rfl, by first | (simp only [pu_add, pu_abs, h2, h4, h6, h8, h11, h15, ↓reduceIte, not_true_eq_false, not_false_eq_true, and_true, true_and, and_false, false_and, or_true, true_or, or_false, false_or, and_self, or_self]; done) | (simp [pu_add, pu_abs, h2, h4, h6, h8, h11, h15]; done) | (simp_all [pu_add, pu_abs]; done), ht⟩) (fun q hq => by cases hq) dX1_add_84
            · skip
              refine lv_iload_n hx hb dX1_add_72 rfl (lv_at hl 2 rfl) ?_
              refine lv_bipush (v := 16) hx hb dX1_add_73 (by decide) ?_
              refine lv_icmp_ne (tgt := 83) hx hb dX1_add_75 (by decide) (fun h16 => ?_) (fun h16 => ?_)
              · skip
                refine lv_iconst (v := 0) hx hb dX1_add_83 (by decide) ?_
                exact W.iret (v := 0) hx hb hr (fun t ht hW => ⟨0, rfl, by first | (simp only [pu_add, pu_abs, h2, h4, h6, h8, h11, h15, h16, ↓reduceIte, not_true_eq_false, not_false_eq_true, and_true, true_and, and_false, false_and, or_true, true_or, or_false, false_or, and_self, or_self]; done) | (simp [pu_add, pu_abs, h2, h4, h6, h8, h11, h15, h16]; done) | (simp_all [pu_add, pu_abs]; done), ht⟩) (fun q hq => by cases hq) dX1_add_84
              · skip
                refine lv_bipush (v := 16) hx hb dX1_add_78 (by decide) ?_
                refine lv_goto (tgt := 84) hx hb dX1_add_80 (by decide) ?_
                exact W.iret (v := 16) hx hb hr (fun t ht hW => ⟨16, rfl, by first | (simp only [pu_add, pu_abs, h2, h4, h6, h8, h11, h15, h16, ↓reduceIte, not_true_eq_false, not_false_eq_true, and_true, true_and, and_false, false_and, or_true, true_or, or_false, false_or, and_self, or_self]; done) | (simp [pu_add, pu_abs, h2, h4, h6, h8, h11, h15, h16]; done) | (simp_all [pu_add, pu_abs]; done), ht⟩) (fun q hq => by cases hq) dX1_add_84
        · skip
          refine lv_iload_n hx hb dX1_add_50 rfl (lv_at hl 1 rfl) ?_
          exact W.iret (v := y) hx hb hr (fun t ht hW => ⟨y, rfl, by first | (simp only [pu_add, pu_abs, h2, h4, h6, h8, ↓reduceIte, not_true_eq_false, not_false_eq_true, and_true, true_and, and_false, false_and, or_true, true_or, or_false, false_or, and_self, or_self]; done) | (simp [pu_add, pu_abs, h2, h4, h6, h8]; done) | (simp_all [pu_add, pu_abs]; done), ht⟩) (fun q hq => by cases hq) dX1_add_51
      · skip
        refine lv_iload_n hx hb dX1_add_24 rfl (lv_at hl 1 rfl) ?_
        refine vp_callSi (W.runS (As := [.int y]) (rest := []) ⟨hx, hb, hml, hown, hts⟩ (ctX1_isInfinite l y) (va_cwS 1 hts (wA_wsS wm_ml_X1_33 wm_st_X1_isInfinite wm_in_X1 wm_cd_X1_isInfinite) rfl rfl rfl (by decide +kernel) ⟨Nat.le_of_ble_eq_true rfl, Nat.le_of_ble_eq_true rfl⟩) ⟨fun a U g mk q => q, fun U hU hW => ⟨rfl, trivial⟩⟩ rfl rfl hl.1 rfl (lv_room (Nat.le_of_ble_eq_true rfl)) dX1_add_25 ⟨Nat.zero_le _, Nat.zero_le _⟩) (fun r17 er17 => ?_)
        subst er17
        refine lv_if_eq (tgt := 41) hx hb dX1_add_28 (by decide) (fun h18 => ?_) (fun h18 => ?_)
        · skip
          refine lv_iload_n hx hb dX1_add_41 rfl (lv_at hl 0 rfl) ?_
          exact W.iret (v := x) hx hb hr (fun t ht hW => ⟨x, rfl, by first | (simp only [pu_add, pu_abs, h2, h4, h6, h18, ↓reduceIte, not_true_eq_false, not_false_eq_true, and_true, true_and, and_false, false_and, or_true, true_or, or_false, false_or, and_self, or_self]; done) | (simp [pu_add, pu_abs, h2, h4, h6, h18]; done) | (simp_all [pu_add, pu_abs]; done), ht⟩) (fun q hq => by cases hq) dX1_add_42
        · skip
          refine lv_iload_n hx hb dX1_add_31 rfl (lv_at hl 0 rfl) ?_
          refine lv_iload_n hx hb dX1_add_32 rfl (lv_at hl 1 rfl) ?_
          refine lv_icmp_eq (tgt := 41) hx hb dX1_add_33 (by decide) (fun h19 => ?_) (fun h19 => ?_)
          · skip
            refine lv_iload_n hx hb dX1_add_41 rfl (lv_at hl 0 rfl) ?_
            exact W.iret (v := x) hx hb hr (fun t ht hW => ⟨x, rfl, by first | (simp only [pu_add, pu_abs, h2, h4, h6, h18, h19, ↓reduceIte, not_true_eq_false, not_false_eq_true, and_true, true_and, and_false, false_and, or_true, true_or, or_false, false_or, and_self, or_self]; done) | (simp [pu_add, pu_abs, h2, h4, h6, h18, h19]; done) | (simp_all [pu_add, pu_abs]; done), ht⟩) (fun q hq => by cases hq) dX1_add_42
          · skip
            refine lv_bipush (v := 13) hx hb dX1_add_36 (by decide) ?_
            refine lv_goto (tgt := 42) hx hb dX1_add_38 (by decide) ?_
            exact W.iret (v := 13) hx hb hr (fun t ht hW => ⟨13, rfl, by first | (simp only [pu_add, pu_abs, h2, h4, h6, h18, h19, ↓reduceIte, not_true_eq_false, not_false_eq_true, and_true, true_and, and_false, false_and, or_true, true_or, or_false, false_or, and_self, or_self]; done) | (simp [pu_add, pu_abs, h2, h4, h6, h18, h19]; done) | (simp_all [pu_add, pu_abs]; done), ht⟩) (fun q hq => by cases hq) dX1_add_42
    · skip
      refine lv_bipush (v := 13) hx hb dX1_add_14 (by decide) ?_
      exact W.iret (v := 13) hx hb hr (fun t ht hW => ⟨13, rfl, by first | (simp only [pu_add, pu_abs, h2, h4, ↓reduceIte, not_true_eq_false, not_false_eq_true, and_true, true_and, and_false, false_and, or_true, true_or, or_false, false_or, and_self, or_self]; done) | (simp [pu_add, pu_abs, h2, h4]; done) | (simp_all [pu_add, pu_abs]; done), ht⟩) (fun q hq => by cases hq) dX1_add_16
set_option maxHeartbeats 4000000 in
set_option maxRecDepth 100000 in
theorem ctX1_multiply (l : Launch) (x y : Int32) : Met l yX1_multiply wsX1_multiply ({ frames := 1, cells := 0, slots := 0, locals := 24 }) (va_Pc [.int x, .int y] (fun _ => True)) (vp_Si (fun r => r = pu_mul x y)) 0 0 (fun _ => False) := by
  refine Met.ofW (cc := cX1_multiply) (maxL := 3) (ret := (some .int)) (by decide) rfl ?_
  intro p e s m args below meth c s₁ B hml hv
  obtain ⟨rfl, -⟩ := hv
  have hx := B.exec
  have hb := B.bytes
  have hr := B.returns
  have hts := atoms_spec (ws := wsX1_multiply) B.pre
  have hown : s.vm.findClass RX1 = some m.cls := findClass_of_methodNamed B.named
  have hlocks := B.notSynchronized
  have hl := lv_entry ([.int x, .int y]) (n := 3) (Nat.le_of_ble_eq_true rfl)
  rw [lg_entry_eq]
  generalize (lg_sl ([.int x, .int y]) ++ List.replicate (3 - (lg_sl ([.int x, .int y])).length) Slot.unset).toArray = ls at hl ⊢
  have hl : lv_has ls 3 [(0, .int x), (1, .int y)] := hl
  refine lv_iload_n hx hb dX1_multiply_0 rfl (lv_at hl 0 rfl) ?_
  refine vp_callSi (W.runS (As := [.int x]) (rest := []) ⟨hx, hb, hml, hown, hts⟩ (ctX1_isNan l x) (va_cwS 1 hts (wA_wsS wm_ml_X1_22 wm_st_X1_isNan wm_in_X1 wm_cd_X1_isNan) rfl rfl rfl (by decide +kernel) ⟨Nat.le_of_ble_eq_true rfl, Nat.le_of_ble_eq_true rfl⟩) ⟨fun a U g mk q => q, fun U hU hW => ⟨rfl, trivial⟩⟩ rfl rfl hl.1 rfl (lv_room (Nat.le_of_ble_eq_true rfl)) dX1_multiply_1 ⟨Nat.zero_le _, Nat.zero_le _⟩) (fun r1 er1 => ?_)
  subst er1
  refine lv_if_ne (tgt := 42) hx hb dX1_multiply_4 (by decide) (fun h2 => ?_) (fun h2 => ?_)
  · skip
    refine lv_bipush (v := 13) hx hb dX1_multiply_42 (by decide) ?_
    exact W.iret (v := 13) hx hb hr (fun t ht hW => ⟨13, rfl, by first | (simp only [pu_mul, pu_abs, h2, ↓reduceIte, not_true_eq_false, not_false_eq_true, and_true, true_and, and_false, false_and, or_true, true_or, or_false, false_or, and_self, or_self]; done) | (simp [pu_mul, pu_abs, h2]; done) | (simp_all [pu_mul, pu_abs]; done), ht⟩) (fun q hq => by cases hq) dX1_multiply_44
  · skip
    refine lv_iload_n hx hb dX1_multiply_7 rfl (lv_at hl 1 rfl) ?_
    refine vp_callSi (W.runS (As := [.int y]) (rest := []) ⟨hx, hb, hml, hown, hts⟩ (ctX1_isNan l y) (va_cwS 1 hts (wA_wsS wm_ml_X1_22 wm_st_X1_isNan wm_in_X1 wm_cd_X1_isNan) rfl rfl rfl (by decide +kernel) ⟨Nat.le_of_ble_eq_true rfl, Nat.le_of_ble_eq_true rfl⟩) ⟨fun a U g mk q => q, fun U hU hW => ⟨rfl, trivial⟩⟩ rfl rfl hl.1 rfl (lv_room (Nat.le_of_ble_eq_true rfl)) dX1_multiply_8 ⟨Nat.zero_le _, Nat.zero_le _⟩) (fun r3 er3 => ?_)
    subst er3
    refine lv_if_ne (tgt := 42) hx hb dX1_multiply_11 (by decide) (fun h4 => ?_) (fun h4 => ?_)
    · skip
      refine lv_bipush (v := 13) hx hb dX1_multiply_42 (by decide) ?_
      exact W.iret (v := 13) hx hb hr (fun t ht hW => ⟨13, rfl, by first | (simp only [pu_mul, pu_abs, h2, h4, ↓reduceIte, not_true_eq_false, not_false_eq_true, and_true, true_and, and_false, false_and, or_true, true_or, or_false, false_or, and_self, or_self]; done) | (simp [pu_mul, pu_abs, h2, h4]; done) | (simp_all [pu_mul, pu_abs]; done), ht⟩) (fun q hq => by cases hq) dX1_multiply_44
    · skip
      refine lv_iload_n hx hb dX1_multiply_14 rfl (lv_at hl 0 rfl) ?_
      refine vp_callSi (W.runS (As := [.int x]) (rest := []) ⟨hx, hb, hml, hown, hts⟩ (ctX1_isInfinite l x) (va_cwS 1 hts (wA_wsS wm_ml_X1_33 wm_st_X1_isInfinite wm_in_X1 wm_cd_X1_isInfinite) rfl rfl rfl (by decide +kernel) ⟨Nat.le_of_ble_eq_true rfl, Nat.le_of_ble_eq_true rfl⟩) ⟨fun a U g mk q => q, fun U hU hW => ⟨rfl, trivial⟩⟩ rfl rfl hl.1 rfl (lv_room (Nat.le_of_ble_eq_true rfl)) dX1_multiply_15 ⟨Nat.zero_le _, Nat.zero_le _⟩) (fun r5 er5 => ?_)
      subst er5
      refine lv_if_eq (tgt := 28) hx hb dX1_multiply_18 (by decide) (fun h6 => ?_) (fun h6 => ?_)
      · skip
        refine lv_iload_n hx hb dX1_multiply_28 rfl (lv_at hl 0 rfl) ?_
        refine vp_callSi (W.runS (As := [.int x]) (rest := []) ⟨hx, hb, hml, hown, hts⟩ (ctX1_isZero l x) (va_cwS 1 hts (wA_wsS wm_ml_X1_36 wm_st_X1_isZero wm_in_X1 wm_cd_X1_isZero) rfl rfl rfl (by decide +kernel) ⟨Nat.le_of_ble_eq_true rfl, Nat.le_of_ble_eq_true rfl⟩) ⟨fun a U g mk q => q, fun U hU hW => ⟨rfl, trivial⟩⟩ rfl rfl hl.1 rfl (lv_room (Nat.le_of_ble_eq_true rfl)) dX1_multiply_29 ⟨Nat.zero_le _, Nat.zero_le _⟩) (fun r7 er7 => ?_)
        subst er7
        refine lv_if_eq (tgt := 45) hx hb dX1_multiply_32 (by decide) (fun h8 => ?_) (fun h8 => ?_)
        · skip
          refine lv_iload_n hx hb dX1_multiply_45 rfl (lv_at hl 0 rfl) ?_
          refine lv_iload_n hx hb dX1_multiply_46 rfl (lv_at hl 1 rfl) ?_
          refine lv_ixor hx hb dX1_multiply_47 ?_
          refine lv_bipush (v := 16) hx hb dX1_multiply_48 (by decide) ?_
          refine lv_iand hx hb dX1_multiply_50 ?_
          refine lv_istore_n (lv' := [(2, .int ((x ^^^ y) &&& 16)), (0, .int x), (1, .int y)]) hx hb dX1_multiply_51 rfl hl (by decide) rfl (fun ls hl => ?_)
          refine lv_iload_n hx hb dX1_multiply_52 rfl (lv_at hl 1 rfl) ?_
          refine vp_callSi (W.runS (As := [.int x]) (rest := []) ⟨hx, hb, hml, hown, hts⟩ (ctX1_isInfinite l x) (va_cwS 1 hts (wA_wsS wm_ml_X1_33 wm_st_X1_isInfinite wm_in_X1 wm_cd_X1_isInfinite) rfl rfl rfl (by decide +kernel) ⟨Nat.le_of_ble_eq_true rfl, Nat.le_of_ble_eq_true rfl⟩) ⟨fun a U g mk q => q, fun U hU hW => ⟨rfl, trivial⟩⟩ rfl rfl hl.1 rfl (lv_room (Nat.le_of_ble_eq_true rfl)) dX1_multiply_53 ⟨Nat.zero_le _, Nat.zero_le _⟩) (fun r9 er9 => ?_)
          subst er9
          refine lv_if_ne (tgt := 66) hx hb dX1_multiply_56 (by decide) (fun h10 => ?_) (fun h10 => ?_)
          · skip
            refine lv_iload_n hx hb dX1_multiply_66 rfl (lv_at hl 0 rfl) ?_
            refine lv_bipush (v := 12) hx hb dX1_multiply_67 (by decide) ?_
            refine lv_ior hx hb dX1_multiply_69 ?_
            exact W.iret (v := ((x ^^^ y) &&& 16) ||| 12) hx hb hr (fun t ht hW => ⟨((x ^^^ y) &&& 16) ||| 12, rfl, by first | (simp only [pu_mul, pu_abs, h2, h4, h6, h8, h10, ↓reduceIte, not_true_eq_false, not_false_eq_true, and_true, true_and, and_false, false_and, or_true, true_or, or_false, false_or, and_self, or_self]; done) | (simp [pu_mul, pu_abs, h2, h4, h6, h8, h10]; done) | (simp_all [pu_mul, pu_abs]; done), ht⟩) (fun q hq => by cases hq) dX1_multiply_70
          · skip
            refine lv_iload_n hx hb dX1_multiply_59 rfl (lv_at hl 2 rfl) ?_
            refine vp_callSi (W.runS (As := [.int y]) (rest := []) ⟨hx, hb, hml, hown, hts⟩ (ctX1_isInfinite l y) (va_cwS 1 hts (wA_wsS wm_ml_X1_33 wm_st_X1_isInfinite wm_in_X1 wm_cd_X1_isInfinite) rfl rfl rfl (by decide +kernel) ⟨Nat.le_of_ble_eq_true rfl, Nat.le_of_ble_eq_true rfl⟩) ⟨fun a U g mk q => q, fun U hU hW => ⟨rfl, trivial⟩⟩ rfl rfl hl.1 rfl (lv_room (Nat.le_of_ble_eq_true rfl)) dX1_multiply_60 ⟨Nat.zero_le _, Nat.zero_le _⟩) (fun r11 er11 => ?_)
            subst er11
            refine lv_if_eq (tgt := 71) hx hb dX1_multiply_63 (by decide) (fun h12 => ?_) (fun h12 => ?_)
            · skip
              refine lv_iload_n hx hb dX1_multiply_71 rfl (lv_at hl 0 rfl) ?_
              refine lv_iload_n hx hb dX1_multiply_72 rfl (lv_at hl 1 rfl) ?_
              refine vp_callSi (W.runS (As := [.int x]) (rest := [.int ((x ^^^ y) &&& 16)]) ⟨hx, hb, hml, hown, hts⟩ (ctX1_signedQuarters l x) (va_cwS 1 hts (wA_wsS wm_ml_X1_39 wm_st_X1_signedQuarters wm_in_X1 wm_cd_X1_signedQuarters) rfl rfl rfl (by decide +kernel) ⟨Nat.le_of_ble_eq_true rfl, Nat.le_of_ble_eq_true rfl⟩) ⟨fun a U g mk q => q, fun U hU hW => ⟨rfl, trivial⟩⟩ rfl rfl hl.1 rfl (lv_room (Nat.le_of_ble_eq_true rfl)) dX1_multiply_73 ⟨Nat.zero_le _, Nat.zero_le _⟩) (fun r13 er13 => ?_)
              subst er13
              refine lv_iload_n hx hb dX1_multiply_76 rfl (lv_at hl 2 rfl) ?_
              refine vp_callSi (W.runS (As := [.int y]) (rest := [.int (pu_sq x), .int ((x ^^^ y) &&& 16)]) ⟨hx, hb, hml, hown, hts⟩ (ctX1_signedQuarters l y) (va_cwS 1 hts (wA_wsS wm_ml_X1_39 wm_st_X1_signedQuarters wm_in_X1 wm_cd_X1_signedQuarters) rfl rfl rfl (by decide +kernel) ⟨Nat.le_of_ble_eq_true rfl, Nat.le_of_ble_eq_true rfl⟩) ⟨fun a U g mk q => q, fun U hU hW => ⟨rfl, trivial⟩⟩ rfl rfl hl.1 rfl (lv_room (Nat.le_of_ble_eq_true rfl)) dX1_multiply_77 ⟨Nat.zero_le _, Nat.zero_le _⟩) (fun r14 er14 => ?_)
              subst er14
              refine lv_imul hx hb dX1_multiply_80 ?_
              refine va_mabs hx hb (by rw [hml]; exact hl.1.symm) hown (hts _ (List.mem_cons_of_mem _ wm_ml_X1_42)) (hts _ (List.mem_cons_of_mem _ wm_st_abs)) (hts _ (List.mem_cons_of_mem _ wm_in_Math)) (hts _ (List.mem_cons_of_mem _ wm_cd_abs)) (Nat.le_of_ble_eq_true rfl) (Nat.le_of_ble_eq_true rfl) (Nat.zero_le _) (Nat.zero_le _) dX1_multiply_81 ?_
              refine vp_callSi (W.runS (As := [.int (if 0 ≤ ((pu_sq x) * (pu_sq y)) then ((pu_sq x) * (pu_sq y)) else 0 - ((pu_sq x) * (pu_sq y)))]) (rest := [.int ((x ^^^ y) &&& 16)]) ⟨hx, hb, hml, hown, hts⟩ (ctX1_rounded l (if 0 ≤ ((pu_sq x) * (pu_sq y)) then ((pu_sq x) * (pu_sq y)) else 0 - ((pu_sq x) * (pu_sq y)))) (va_cwS 1 hts (wA_wsS wm_ml_X1_47 wm_st_X1_rounded wm_in_X1 wm_cd_X1_rounded) rfl rfl rfl (by decide +kernel) ⟨Nat.le_of_ble_eq_true rfl, Nat.le_of_ble_eq_true rfl⟩) ⟨fun a U g mk q => q, fun U hU hW => ⟨rfl, trivial⟩⟩ rfl rfl hl.1 rfl (lv_room (Nat.le_of_ble_eq_true rfl)) dX1_multiply_84 ⟨Nat.zero_le _, Nat.zero_le _⟩) (fun r15 er15 => ?_)
              subst er15
              refine lv_ior hx hb dX1_multiply_87 ?_
              exact W.iret (v := ((x ^^^ y) &&& 16) ||| (pu_rnd (if 0 ≤ ((pu_sq x) * (pu_sq y)) then ((pu_sq x) * (pu_sq y)) else 0 - ((pu_sq x) * (pu_sq y))))) hx hb hr (fun t ht hW => ⟨((x ^^^ y) &&& 16) ||| (pu_rnd (if 0 ≤ ((pu_sq x) * (pu_sq y)) then ((pu_sq x) * (pu_sq y)) else 0 - ((pu_sq x) * (pu_sq y)))), rfl, by first | (simp only [pu_mul, pu_abs, h2, h4, h6, h8, h10, h12, ↓reduceIte, not_true_eq_false, not_false_eq_true, and_true, true_and, and_false, false_and, or_true, true_or, or_false, false_or, and_self, or_self]; done) | (simp [pu_mul, pu_abs, h2, h4, h6, h8, h10, h12]; done) | (simp_all [pu_mul, pu_abs]; done), ht⟩) (fun q hq => by cases hq) dX1_multiply_88
            · skip
              refine lv_iload_n hx hb dX1_multiply_66 rfl (lv_at hl 0 rfl) ?_
              refine lv_bipush (v := 12) hx hb dX1_multiply_67 (by decide) ?_
              refine lv_ior hx hb dX1_multiply_69 ?_
              exact W.iret (v := ((x ^^^ y) &&& 16) ||| 12) hx hb hr (fun t ht hW => ⟨((x ^^^ y) &&& 16) ||| 12, rfl, by first | (simp only [pu_mul, pu_abs, h2, h4, h6, h8, h10, h12, ↓reduceIte, not_true_eq_false, not_false_eq_true, and_true, true_and, and_false, false_and, or_true, true_or, or_false, false_or, and_self, or_self]; done) | (simp [pu_mul, pu_abs, h2, h4, h6, h8, h10, h12]; done) | (simp_all [pu_mul, pu_abs]; done), ht⟩) (fun q hq => by cases hq) dX1_multiply_70
        · skip
          refine lv_iload_n hx hb dX1_multiply_35 rfl (lv_at hl 1 rfl) ?_
          refine vp_callSi (W.runS (As := [.int y]) (rest := []) ⟨hx, hb, hml, hown, hts⟩ (ctX1_isInfinite l y) (va_cwS 1 hts (wA_wsS wm_ml_X1_33 wm_st_X1_isInfinite wm_in_X1 wm_cd_X1_isInfinite) rfl rfl rfl (by decide +kernel) ⟨Nat.le_of_ble_eq_true rfl, Nat.le_of_ble_eq_true rfl⟩) ⟨fun a U g mk q => q, fun U hU hW => ⟨rfl, trivial⟩⟩ rfl rfl hl.1 rfl (lv_room (Nat.le_of_ble_eq_true rfl)) dX1_multiply_36 ⟨Nat.zero_le _, Nat.zero_le _⟩) (fun r16 er16 => ?_)
          subst er16
          refine lv_if_eq (tgt := 45) hx hb dX1_multiply_39 (by decide) (fun h17 => ?_) (fun h17 => ?_)
          · skip
            refine lv_iload_n hx hb dX1_multiply_45 rfl (lv_at hl 0 rfl) ?_
            refine lv_iload_n hx hb dX1_multiply_46 rfl (lv_at hl 1 rfl) ?_
            refine lv_ixor hx hb dX1_multiply_47 ?_
            refine lv_bipush (v := 16) hx hb dX1_multiply_48 (by decide) ?_
            refine lv_iand hx hb dX1_multiply_50 ?_
            refine lv_istore_n (lv' := [(2, .int ((x ^^^ y) &&& 16)), (0, .int x), (1, .int y)]) hx hb dX1_multiply_51 rfl hl (by decide) rfl (fun ls hl => ?_)
            refine lv_iload_n hx hb dX1_multiply_52 rfl (lv_at hl 1 rfl) ?_
            refine vp_callSi (W.runS (As := [.int x]) (rest := []) ⟨hx, hb, hml, hown, hts⟩ (ctX1_isInfinite l x) (va_cwS 1 hts (wA_wsS wm_ml_X1_33 wm_st_X1_isInfinite wm_in_X1 wm_cd_X1_isInfinite) rfl rfl rfl (by decide +kernel) ⟨Nat.le_of_ble_eq_true rfl, Nat.le_of_ble_eq_true rfl⟩) ⟨fun a U g mk q => q, fun U hU hW => ⟨rfl, trivial⟩⟩ rfl rfl hl.1 rfl (lv_room (Nat.le_of_ble_eq_true rfl)) dX1_multiply_53 ⟨Nat.zero_le _, Nat.zero_le _⟩) (fun r18 er18 => ?_)
            subst er18
            refine lv_if_ne (tgt := 66) hx hb dX1_multiply_56 (by decide) (fun h19 => ?_) (fun h19 => ?_)
            · skip
              refine lv_iload_n hx hb dX1_multiply_66 rfl (lv_at hl 0 rfl) ?_
              refine lv_bipush (v := 12) hx hb dX1_multiply_67 (by decide) ?_
              refine lv_ior hx hb dX1_multiply_69 ?_
              exact W.iret (v := ((x ^^^ y) &&& 16) ||| 12) hx hb hr (fun t ht hW => ⟨((x ^^^ y) &&& 16) ||| 12, rfl, by first | (simp only [pu_mul, pu_abs, h2, h4, h6, h8, h17, h19, ↓reduceIte, not_true_eq_false, not_false_eq_true, and_true, true_and, and_false, false_and, or_true, true_or, or_false, false_or, and_self, or_self]; done) | (simp [pu_mul, pu_abs, h2, h4, h6, h8, h17, h19]; done) | (simp_all [pu_mul, pu_abs]; done), ht⟩) (fun q hq => by cases hq) dX1_multiply_70
            · skip
              refine lv_iload_n hx hb dX1_multiply_59 rfl (lv_at hl 2 rfl) ?_
              refine vp_callSi (W.runS (As := [.int y]) (rest := []) ⟨hx, hb, hml, hown, hts⟩ (ctX1_isInfinite l y) (va_cwS 1 hts (wA_wsS wm_ml_X1_33 wm_st_X1_isInfinite wm_in_X1 wm_cd_X1_isInfinite) rfl rfl rfl (by decide +kernel) ⟨Nat.le_of_ble_eq_true rfl, Nat.le_of_ble_eq_true rfl⟩) ⟨fun a U g mk q => q, fun U hU hW => ⟨rfl, trivial⟩⟩ rfl rfl hl.1 rfl (lv_room (Nat.le_of_ble_eq_true rfl)) dX1_multiply_60 ⟨Nat.zero_le _, Nat.zero_le _⟩) (fun r20 er20 => ?_)
              subst er20
              refine lv_if_eq (tgt := 71) hx hb dX1_multiply_63 (by decide) (fun h21 => ?_) (fun h21 => ?_)
              · skip
                refine lv_iload_n hx hb dX1_multiply_71 rfl (lv_at hl 0 rfl) ?_
                refine lv_iload_n hx hb dX1_multiply_72 rfl (lv_at hl 1 rfl) ?_
                refine vp_callSi (W.runS (As := [.int x]) (rest := [.int ((x ^^^ y) &&& 16)]) ⟨hx, hb, hml, hown, hts⟩ (ctX1_signedQuarters l x) (va_cwS 1 hts (wA_wsS wm_ml_X1_39 wm_st_X1_signedQuarters wm_in_X1 wm_cd_X1_signedQuarters) rfl rfl rfl (by decide +kernel) ⟨Nat.le_of_ble_eq_true rfl, Nat.le_of_ble_eq_true rfl⟩) ⟨fun a U g mk q => q, fun U hU hW => ⟨rfl, trivial⟩⟩ rfl rfl hl.1 rfl (lv_room (Nat.le_of_ble_eq_true rfl)) dX1_multiply_73 ⟨Nat.zero_le _, Nat.zero_le _⟩) (fun r22 er22 => ?_)
                subst er22
                refine lv_iload_n hx hb dX1_multiply_76 rfl (lv_at hl 2 rfl) ?_
                refine vp_callSi (W.runS (As := [.int y]) (rest := [.int (pu_sq x), .int ((x ^^^ y) &&& 16)]) ⟨hx, hb, hml, hown, hts⟩ (ctX1_signedQuarters l y) (va_cwS 1 hts (wA_wsS wm_ml_X1_39 wm_st_X1_signedQuarters wm_in_X1 wm_cd_X1_signedQuarters) rfl rfl rfl (by decide +kernel) ⟨Nat.le_of_ble_eq_true rfl, Nat.le_of_ble_eq_true rfl⟩) ⟨fun a U g mk q => q, fun U hU hW => ⟨rfl, trivial⟩⟩ rfl rfl hl.1 rfl (lv_room (Nat.le_of_ble_eq_true rfl)) dX1_multiply_77 ⟨Nat.zero_le _, Nat.zero_le _⟩) (fun r23 er23 => ?_)
                subst er23
                refine lv_imul hx hb dX1_multiply_80 ?_
                refine va_mabs hx hb (by rw [hml]; exact hl.1.symm) hown (hts _ (List.mem_cons_of_mem _ wm_ml_X1_42)) (hts _ (List.mem_cons_of_mem _ wm_st_abs)) (hts _ (List.mem_cons_of_mem _ wm_in_Math)) (hts _ (List.mem_cons_of_mem _ wm_cd_abs)) (Nat.le_of_ble_eq_true rfl) (Nat.le_of_ble_eq_true rfl) (Nat.zero_le _) (Nat.zero_le _) dX1_multiply_81 ?_
                refine vp_callSi (W.runS (As := [.int (if 0 ≤ ((pu_sq x) * (pu_sq y)) then ((pu_sq x) * (pu_sq y)) else 0 - ((pu_sq x) * (pu_sq y)))]) (rest := [.int ((x ^^^ y) &&& 16)]) ⟨hx, hb, hml, hown, hts⟩ (ctX1_rounded l (if 0 ≤ ((pu_sq x) * (pu_sq y)) then ((pu_sq x) * (pu_sq y)) else 0 - ((pu_sq x) * (pu_sq y)))) (va_cwS 1 hts (wA_wsS wm_ml_X1_47 wm_st_X1_rounded wm_in_X1 wm_cd_X1_rounded) rfl rfl rfl (by decide +kernel) ⟨Nat.le_of_ble_eq_true rfl, Nat.le_of_ble_eq_true rfl⟩) ⟨fun a U g mk q => q, fun U hU hW => ⟨rfl, trivial⟩⟩ rfl rfl hl.1 rfl (lv_room (Nat.le_of_ble_eq_true rfl)) dX1_multiply_84 ⟨Nat.zero_le _, Nat.zero_le _⟩) (fun r24 er24 => ?_)
                subst er24
                refine lv_ior hx hb dX1_multiply_87 ?_
                exact W.iret (v := ((x ^^^ y) &&& 16) ||| (pu_rnd (if 0 ≤ ((pu_sq x) * (pu_sq y)) then ((pu_sq x) * (pu_sq y)) else 0 - ((pu_sq x) * (pu_sq y))))) hx hb hr (fun t ht hW => ⟨((x ^^^ y) &&& 16) ||| (pu_rnd (if 0 ≤ ((pu_sq x) * (pu_sq y)) then ((pu_sq x) * (pu_sq y)) else 0 - ((pu_sq x) * (pu_sq y)))), rfl, by first | (simp only [pu_mul, pu_abs, h2, h4, h6, h8, h17, h19, h21, ↓reduceIte, not_true_eq_false, not_false_eq_true, and_true, true_and, and_false, false_and, or_true, true_or, or_false, false_or, and_self, or_self]; done) | (simp [pu_mul, pu_abs, h2, h4, h6, h8, h17, h19, h21]; done) | (simp_all [pu_mul, pu_abs]; done), ht⟩) (fun q hq => by cases hq) dX1_multiply_88
              · skip
                refine lv_iload_n hx hb dX1_multiply_66 rfl (lv_at hl 0 rfl) ?_
                refine lv_bipush (v := 12) hx hb dX1_multiply_67 (by decide) ?_
                refine lv_ior hx hb dX1_multiply_69 ?_
                exact W.iret (v := ((x ^^^ y) &&& 16) ||| 12) hx hb hr (fun t ht hW => ⟨((x ^^^ y) &&& 16) ||| 12, rfl, by first | (simp only [pu_mul, pu_abs, h2, h4, h6, h8, h17, h19, h21, ↓reduceIte, not_true_eq_false, not_false_eq_true, and_true, true_and, and_false, false_and, or_true, true_or, or_false, false_or, and_self, or_self]; done) | (simp [pu_mul, pu_abs, h2, h4, h6, h8, h17, h19, h21]; done) | (simp_all [pu_mul, pu_abs]; done), ht⟩) (fun q hq => by cases hq) dX1_multiply_70
          · skip
            refine lv_bipush (v := 13) hx hb dX1_multiply_42 (by decide) ?_
            exact W.iret (v := 13) hx hb hr (fun t ht hW => ⟨13, rfl, by first | (simp only [pu_mul, pu_abs, h2, h4, h6, h8, h17, ↓reduceIte, not_true_eq_false, not_false_eq_true, and_true, true_and, and_false, false_and, or_true, true_or, or_false, false_or, and_self, or_self]; done) | (simp [pu_mul, pu_abs, h2, h4, h6, h8, h17]; done) | (simp_all [pu_mul, pu_abs]; done), ht⟩) (fun q hq => by cases hq) dX1_multiply_44
      · skip
        refine lv_iload_n hx hb dX1_multiply_21 rfl (lv_at hl 1 rfl) ?_
        refine vp_callSi (W.runS (As := [.int y]) (rest := []) ⟨hx, hb, hml, hown, hts⟩ (ctX1_isZero l y) (va_cwS 1 hts (wA_wsS wm_ml_X1_36 wm_st_X1_isZero wm_in_X1 wm_cd_X1_isZero) rfl rfl rfl (by decide +kernel) ⟨Nat.le_of_ble_eq_true rfl, Nat.le_of_ble_eq_true rfl⟩) ⟨fun a U g mk q => q, fun U hU hW => ⟨rfl, trivial⟩⟩ rfl rfl hl.1 rfl (lv_room (Nat.le_of_ble_eq_true rfl)) dX1_multiply_22 ⟨Nat.zero_le _, Nat.zero_le _⟩) (fun r25 er25 => ?_)
        subst er25
        refine lv_if_ne (tgt := 42) hx hb dX1_multiply_25 (by decide) (fun h26 => ?_) (fun h26 => ?_)
        · skip
          refine lv_bipush (v := 13) hx hb dX1_multiply_42 (by decide) ?_
          exact W.iret (v := 13) hx hb hr (fun t ht hW => ⟨13, rfl, by first | (simp only [pu_mul, pu_abs, h2, h4, h6, h26, ↓reduceIte, not_true_eq_false, not_false_eq_true, and_true, true_and, and_false, false_and, or_true, true_or, or_false, false_or, and_self, or_self]; done) | (simp [pu_mul, pu_abs, h2, h4, h6, h26]; done) | (simp_all [pu_mul, pu_abs]; done), ht⟩) (fun q hq => by cases hq) dX1_multiply_44
        · skip
          refine lv_iload_n hx hb dX1_multiply_28 rfl (lv_at hl 0 rfl) ?_
          refine vp_callSi (W.runS (As := [.int x]) (rest := []) ⟨hx, hb, hml, hown, hts⟩ (ctX1_isZero l x) (va_cwS 1 hts (wA_wsS wm_ml_X1_36 wm_st_X1_isZero wm_in_X1 wm_cd_X1_isZero) rfl rfl rfl (by decide +kernel) ⟨Nat.le_of_ble_eq_true rfl, Nat.le_of_ble_eq_true rfl⟩) ⟨fun a U g mk q => q, fun U hU hW => ⟨rfl, trivial⟩⟩ rfl rfl hl.1 rfl (lv_room (Nat.le_of_ble_eq_true rfl)) dX1_multiply_29 ⟨Nat.zero_le _, Nat.zero_le _⟩) (fun r27 er27 => ?_)
          subst er27
          refine lv_if_eq (tgt := 45) hx hb dX1_multiply_32 (by decide) (fun h28 => ?_) (fun h28 => ?_)
          · skip
            refine lv_iload_n hx hb dX1_multiply_45 rfl (lv_at hl 0 rfl) ?_
            refine lv_iload_n hx hb dX1_multiply_46 rfl (lv_at hl 1 rfl) ?_
            refine lv_ixor hx hb dX1_multiply_47 ?_
            refine lv_bipush (v := 16) hx hb dX1_multiply_48 (by decide) ?_
            refine lv_iand hx hb dX1_multiply_50 ?_
            refine lv_istore_n (lv' := [(2, .int ((x ^^^ y) &&& 16)), (0, .int x), (1, .int y)]) hx hb dX1_multiply_51 rfl hl (by decide) rfl (fun ls hl => ?_)
            refine lv_iload_n hx hb dX1_multiply_52 rfl (lv_at hl 1 rfl) ?_
            refine vp_callSi (W.runS (As := [.int x]) (rest := []) ⟨hx, hb, hml, hown, hts⟩ (ctX1_isInfinite l x) (va_cwS 1 hts (wA_wsS wm_ml_X1_33 wm_st_X1_isInfinite wm_in_X1 wm_cd_X1_isInfinite) rfl rfl rfl (by decide +kernel) ⟨Nat.le_of_ble_eq_true rfl, Nat.le_of_ble_eq_true rfl⟩) ⟨fun a U g mk q => q, fun U hU hW => ⟨rfl, trivial⟩⟩ rfl rfl hl.1 rfl (lv_room (Nat.le_of_ble_eq_true rfl)) dX1_multiply_53 ⟨Nat.zero_le _, Nat.zero_le _⟩) (fun r29 er29 => ?_)
            subst er29
            refine lv_if_ne (tgt := 66) hx hb dX1_multiply_56 (by decide) (fun h30 => ?_) (fun h30 => ?_)
            · skip
              refine lv_iload_n hx hb dX1_multiply_66 rfl (lv_at hl 0 rfl) ?_
              refine lv_bipush (v := 12) hx hb dX1_multiply_67 (by decide) ?_
              refine lv_ior hx hb dX1_multiply_69 ?_
              exact W.iret (v := ((x ^^^ y) &&& 16) ||| 12) hx hb hr (fun t ht hW => ⟨((x ^^^ y) &&& 16) ||| 12, rfl, by first | (simp only [pu_mul, pu_abs, h2, h4, h6, h26, h28, h30, ↓reduceIte, not_true_eq_false, not_false_eq_true, and_true, true_and, and_false, false_and, or_true, true_or, or_false, false_or, and_self, or_self]; done) | (simp [pu_mul, pu_abs, h2, h4, h6, h26, h28, h30]; done) | (simp_all [pu_mul, pu_abs]; done), ht⟩) (fun q hq => by cases hq) dX1_multiply_70
            · skip
              refine lv_iload_n hx hb dX1_multiply_59 rfl (lv_at hl 2 rfl) ?_
              refine vp_callSi (W.runS (As := [.int y]) (rest := []) ⟨hx, hb, hml, hown, hts⟩ (ctX1_isInfinite l y) (va_cwS 1 hts (wA_wsS wm_ml_X1_33 wm_st_X1_isInfinite wm_in_X1 wm_cd_X1_isInfinite) rfl rfl rfl (by decide +kernel) ⟨Nat.le_of_ble_eq_true rfl, Nat.le_of_ble_eq_true rfl⟩) ⟨fun a U g mk q => q, fun U hU hW => ⟨rfl, trivial⟩⟩ rfl rfl hl.1 rfl (lv_room (Nat.le_of_ble_eq_true rfl)) dX1_multiply_60 ⟨Nat.zero_le _, Nat.zero_le _⟩) (fun r31 er31 => ?_)
              subst er31
              refine lv_if_eq (tgt := 71) hx hb dX1_multiply_63 (by decide) (fun h32 => ?_) (fun h32 => ?_)
              · skip
                refine lv_iload_n hx hb dX1_multiply_71 rfl (lv_at hl 0 rfl) ?_
                refine lv_iload_n hx hb dX1_multiply_72 rfl (lv_at hl 1 rfl) ?_
                refine vp_callSi (W.runS (As := [.int x]) (rest := [.int ((x ^^^ y) &&& 16)]) ⟨hx, hb, hml, hown, hts⟩ (ctX1_signedQuarters l x) (va_cwS 1 hts (wA_wsS wm_ml_X1_39 wm_st_X1_signedQuarters wm_in_X1 wm_cd_X1_signedQuarters) rfl rfl rfl (by decide +kernel) ⟨Nat.le_of_ble_eq_true rfl, Nat.le_of_ble_eq_true rfl⟩) ⟨fun a U g mk q => q, fun U hU hW => ⟨rfl, trivial⟩⟩ rfl rfl hl.1 rfl (lv_room (Nat.le_of_ble_eq_true rfl)) dX1_multiply_73 ⟨Nat.zero_le _, Nat.zero_le _⟩) (fun r33 er33 => ?_)
                subst er33
                refine lv_iload_n hx hb dX1_multiply_76 rfl (lv_at hl 2 rfl) ?_
                refine vp_callSi (W.runS (As := [.int y]) (rest := [.int (pu_sq x), .int ((x ^^^ y) &&& 16)]) ⟨hx, hb, hml, hown, hts⟩ (ctX1_signedQuarters l y) (va_cwS 1 hts (wA_wsS wm_ml_X1_39 wm_st_X1_signedQuarters wm_in_X1 wm_cd_X1_signedQuarters) rfl rfl rfl (by decide +kernel) ⟨Nat.le_of_ble_eq_true rfl, Nat.le_of_ble_eq_true rfl⟩) ⟨fun a U g mk q => q, fun U hU hW => ⟨rfl, trivial⟩⟩ rfl rfl hl.1 rfl (lv_room (Nat.le_of_ble_eq_true rfl)) dX1_multiply_77 ⟨Nat.zero_le _, Nat.zero_le _⟩) (fun r34 er34 => ?_)
                subst er34
                refine lv_imul hx hb dX1_multiply_80 ?_
                refine va_mabs hx hb (by rw [hml]; exact hl.1.symm) hown (hts _ (List.mem_cons_of_mem _ wm_ml_X1_42)) (hts _ (List.mem_cons_of_mem _ wm_st_abs)) (hts _ (List.mem_cons_of_mem _ wm_in_Math)) (hts _ (List.mem_cons_of_mem _ wm_cd_abs)) (Nat.le_of_ble_eq_true rfl) (Nat.le_of_ble_eq_true rfl) (Nat.zero_le _) (Nat.zero_le _) dX1_multiply_81 ?_
                refine vp_callSi (W.runS (As := [.int (if 0 ≤ ((pu_sq x) * (pu_sq y)) then ((pu_sq x) * (pu_sq y)) else 0 - ((pu_sq x) * (pu_sq y)))]) (rest := [.int ((x ^^^ y) &&& 16)]) ⟨hx, hb, hml, hown, hts⟩ (ctX1_rounded l (if 0 ≤ ((pu_sq x) * (pu_sq y)) then ((pu_sq x) * (pu_sq y)) else 0 - ((pu_sq x) * (pu_sq y)))) (va_cwS 1 hts (wA_wsS wm_ml_X1_47 wm_st_X1_rounded wm_in_X1 wm_cd_X1_rounded) rfl rfl rfl (by decide +kernel) ⟨Nat.le_of_ble_eq_true rfl, Nat.le_of_ble_eq_true rfl⟩) ⟨fun a U g mk q => q, fun U hU hW => ⟨rfl, trivial⟩⟩ rfl rfl hl.1 rfl (lv_room (Nat.le_of_ble_eq_true rfl)) dX1_multiply_84 ⟨Nat.zero_le _, Nat.zero_le _⟩) (fun r35 er35 => ?_)
                subst er35
                refine lv_ior hx hb dX1_multiply_87 ?_
                exact W.iret (v := ((x ^^^ y) &&& 16) ||| (pu_rnd (if 0 ≤ ((pu_sq x) * (pu_sq y)) then ((pu_sq x) * (pu_sq y)) else 0 - ((pu_sq x) * (pu_sq y))))) hx hb hr (fun t ht hW => ⟨((x ^^^ y) &&& 16) ||| (pu_rnd (if 0 ≤ ((pu_sq x) * (pu_sq y)) then ((pu_sq x) * (pu_sq y)) else 0 - ((pu_sq x) * (pu_sq y)))), rfl, by first | (simp only [pu_mul, pu_abs, h2, h4, h6, h26, h28, h30, h32, ↓reduceIte, not_true_eq_false, not_false_eq_true, and_true, true_and, and_false, false_and, or_true, true_or, or_false, false_or, and_self, or_self]; done) | (simp [pu_mul, pu_abs, h2, h4, h6, h26, h28, h30, h32]; done) | (simp_all [pu_mul, pu_abs]; done), ht⟩) (fun q hq => by cases hq) dX1_multiply_88
              · skip
                refine lv_iload_n hx hb dX1_multiply_66 rfl (lv_at hl 0 rfl) ?_
                refine lv_bipush (v := 12) hx hb dX1_multiply_67 (by decide) ?_
                refine lv_ior hx hb dX1_multiply_69 ?_
                exact W.iret (v := ((x ^^^ y) &&& 16) ||| 12) hx hb hr (fun t ht hW => ⟨((x ^^^ y) &&& 16) ||| 12, rfl, by first | (simp only [pu_mul, pu_abs, h2, h4, h6, h26, h28, h30, h32, ↓reduceIte, not_true_eq_false, not_false_eq_true, and_true, true_and, and_false, false_and, or_true, true_or, or_false, false_or, and_self, or_self]; done) | (simp [pu_mul, pu_abs, h2, h4, h6, h26, h28, h30, h32]; done) | (simp_all [pu_mul, pu_abs]; done), ht⟩) (fun q hq => by cases hq) dX1_multiply_70
          · skip
            refine lv_iload_n hx hb dX1_multiply_35 rfl (lv_at hl 1 rfl) ?_
            refine vp_callSi (W.runS (As := [.int y]) (rest := []) ⟨hx, hb, hml, hown, hts⟩ (ctX1_isInfinite l y) (va_cwS 1 hts (wA_wsS wm_ml_X1_33 wm_st_X1_isInfinite wm_in_X1 wm_cd_X1_isInfinite) rfl rfl rfl (by decide +kernel) ⟨Nat.le_of_ble_eq_true rfl, Nat.le_of_ble_eq_true rfl⟩) ⟨fun a U g mk q => q, fun U hU hW => ⟨rfl, trivial⟩⟩ rfl rfl hl.1 rfl (lv_room (Nat.le_of_ble_eq_true rfl)) dX1_multiply_36 ⟨Nat.zero_le _, Nat.zero_le _⟩) (fun r36 er36 => ?_)
            subst er36
            refine lv_if_eq (tgt := 45) hx hb dX1_multiply_39 (by decide) (fun h37 => ?_) (fun h37 => ?_)
            · skip
              refine lv_iload_n hx hb dX1_multiply_45 rfl (lv_at hl 0 rfl) ?_
              refine lv_iload_n hx hb dX1_multiply_46 rfl (lv_at hl 1 rfl) ?_
              refine lv_ixor hx hb dX1_multiply_47 ?_
              refine lv_bipush (v := 16) hx hb dX1_multiply_48 (by decide) ?_
              refine lv_iand hx hb dX1_multiply_50 ?_
              refine lv_istore_n (lv' := [(2, .int ((x ^^^ y) &&& 16)), (0, .int x), (1, .int y)]) hx hb dX1_multiply_51 rfl hl (by decide) rfl (fun ls hl => ?_)
              refine lv_iload_n hx hb dX1_multiply_52 rfl (lv_at hl 1 rfl) ?_
              refine vp_callSi (W.runS (As := [.int x]) (rest := []) ⟨hx, hb, hml, hown, hts⟩ (ctX1_isInfinite l x) (va_cwS 1 hts (wA_wsS wm_ml_X1_33 wm_st_X1_isInfinite wm_in_X1 wm_cd_X1_isInfinite) rfl rfl rfl (by decide +kernel) ⟨Nat.le_of_ble_eq_true rfl, Nat.le_of_ble_eq_true rfl⟩) ⟨fun a U g mk q => q, fun U hU hW => ⟨rfl, trivial⟩⟩ rfl rfl hl.1 rfl (lv_room (Nat.le_of_ble_eq_true rfl)) dX1_multiply_53 ⟨Nat.zero_le _, Nat.zero_le _⟩) (fun r38 er38 => ?_)
              subst er38
              refine lv_if_ne (tgt := 66) hx hb dX1_multiply_56 (by decide) (fun h39 => ?_) (fun h39 => ?_)
              · skip
                refine lv_iload_n hx hb dX1_multiply_66 rfl (lv_at hl 0 rfl) ?_
                refine lv_bipush (v := 12) hx hb dX1_multiply_67 (by decide) ?_
                refine lv_ior hx hb dX1_multiply_69 ?_
                exact W.iret (v := ((x ^^^ y) &&& 16) ||| 12) hx hb hr (fun t ht hW => ⟨((x ^^^ y) &&& 16) ||| 12, rfl, by first | (simp only [pu_mul, pu_abs, h2, h4, h6, h26, h28, h37, h39, ↓reduceIte, not_true_eq_false, not_false_eq_true, and_true, true_and, and_false, false_and, or_true, true_or, or_false, false_or, and_self, or_self]; done) | (simp [pu_mul, pu_abs, h2, h4, h6, h26, h28, h37, h39]; done) | (simp_all [pu_mul, pu_abs]; done), ht⟩) (fun q hq => by cases hq) dX1_multiply_70
              · skip
                refine lv_iload_n hx hb dX1_multiply_59 rfl (lv_at hl 2 rfl) ?_
                refine vp_callSi (W.runS (As := [.int y]) (rest := []) ⟨hx, hb, hml, hown, hts⟩ (ctX1_isInfinite l y) (va_cwS 1 hts (wA_wsS wm_ml_X1_33 wm_st_X1_isInfinite wm_in_X1 wm_cd_X1_isInfinite) rfl rfl rfl (by decide +kernel) ⟨Nat.le_of_ble_eq_true rfl, Nat.le_of_ble_eq_true rfl⟩) ⟨fun a U g mk q => q, fun U hU hW => ⟨rfl, trivial⟩⟩ rfl rfl hl.1 rfl (lv_room (Nat.le_of_ble_eq_true rfl)) dX1_multiply_60 ⟨Nat.zero_le _, Nat.zero_le _⟩) (fun r40 er40 => ?_)
                subst er40
                refine lv_if_eq (tgt := 71) hx hb dX1_multiply_63 (by decide) (fun h41 => ?_) (fun h41 => ?_)
                · skip
                  refine lv_iload_n hx hb dX1_multiply_71 rfl (lv_at hl 0 rfl) ?_
                  refine lv_iload_n hx hb dX1_multiply_72 rfl (lv_at hl 1 rfl) ?_
                  refine vp_callSi (W.runS (As := [.int x]) (rest := [.int ((x ^^^ y) &&& 16)]) ⟨hx, hb, hml, hown, hts⟩ (ctX1_signedQuarters l x) (va_cwS 1 hts (wA_wsS wm_ml_X1_39 wm_st_X1_signedQuarters wm_in_X1 wm_cd_X1_signedQuarters) rfl rfl rfl (by decide +kernel) ⟨Nat.le_of_ble_eq_true rfl, Nat.le_of_ble_eq_true rfl⟩) ⟨fun a U g mk q => q, fun U hU hW => ⟨rfl, trivial⟩⟩ rfl rfl hl.1 rfl (lv_room (Nat.le_of_ble_eq_true rfl)) dX1_multiply_73 ⟨Nat.zero_le _, Nat.zero_le _⟩) (fun r42 er42 => ?_)
                  subst er42
                  refine lv_iload_n hx hb dX1_multiply_76 rfl (lv_at hl 2 rfl) ?_
                  refine vp_callSi (W.runS (As := [.int y]) (rest := [.int (pu_sq x), .int ((x ^^^ y) &&& 16)]) ⟨hx, hb, hml, hown, hts⟩ (ctX1_signedQuarters l y) (va_cwS 1 hts (wA_wsS wm_ml_X1_39 wm_st_X1_signedQuarters wm_in_X1 wm_cd_X1_signedQuarters) rfl rfl rfl (by decide +kernel) ⟨Nat.le_of_ble_eq_true rfl, Nat.le_of_ble_eq_true rfl⟩) ⟨fun a U g mk q => q, fun U hU hW => ⟨rfl, trivial⟩⟩ rfl rfl hl.1 rfl (lv_room (Nat.le_of_ble_eq_true rfl)) dX1_multiply_77 ⟨Nat.zero_le _, Nat.zero_le _⟩) (fun r43 er43 => ?_)
                  subst er43
                  refine lv_imul hx hb dX1_multiply_80 ?_
                  refine va_mabs hx hb (by rw [hml]; exact hl.1.symm) hown (hts _ (List.mem_cons_of_mem _ wm_ml_X1_42)) (hts _ (List.mem_cons_of_mem _ wm_st_abs)) (hts _ (List.mem_cons_of_mem _ wm_in_Math)) (hts _ (List.mem_cons_of_mem _ wm_cd_abs)) (Nat.le_of_ble_eq_true rfl) (Nat.le_of_ble_eq_true rfl) (Nat.zero_le _) (Nat.zero_le _) dX1_multiply_81 ?_
                  refine vp_callSi (W.runS (As := [.int (if 0 ≤ ((pu_sq x) * (pu_sq y)) then ((pu_sq x) * (pu_sq y)) else 0 - ((pu_sq x) * (pu_sq y)))]) (rest := [.int ((x ^^^ y) &&& 16)]) ⟨hx, hb, hml, hown, hts⟩ (ctX1_rounded l (if 0 ≤ ((pu_sq x) * (pu_sq y)) then ((pu_sq x) * (pu_sq y)) else 0 - ((pu_sq x) * (pu_sq y)))) (va_cwS 1 hts (wA_wsS wm_ml_X1_47 wm_st_X1_rounded wm_in_X1 wm_cd_X1_rounded) rfl rfl rfl (by decide +kernel) ⟨Nat.le_of_ble_eq_true rfl, Nat.le_of_ble_eq_true rfl⟩) ⟨fun a U g mk q => q, fun U hU hW => ⟨rfl, trivial⟩⟩ rfl rfl hl.1 rfl (lv_room (Nat.le_of_ble_eq_true rfl)) dX1_multiply_84 ⟨Nat.zero_le _, Nat.zero_le _⟩) (fun r44 er44 => ?_)
                  subst er44
                  refine lv_ior hx hb dX1_multiply_87 ?_
                  exact W.iret (v := ((x ^^^ y) &&& 16) ||| (pu_rnd (if 0 ≤ ((pu_sq x) * (pu_sq y)) then ((pu_sq x) * (pu_sq y)) else 0 - ((pu_sq x) * (pu_sq y))))) hx hb hr (fun t ht hW => ⟨((x ^^^ y) &&& 16) ||| (pu_rnd (if 0 ≤ ((pu_sq x) * (pu_sq y)) then ((pu_sq x) * (pu_sq y)) else 0 - ((pu_sq x) * (pu_sq y)))), rfl, by first | (simp only [pu_mul, pu_abs, h2, h4, h6, h26, h28, h37, h39, h41, ↓reduceIte, not_true_eq_false, not_false_eq_true, and_true, true_and, and_false, false_and, or_true, true_or, or_false, false_or, and_self, or_self]; done) | (simp [pu_mul, pu_abs, h2, h4, h6, h26, h28, h37, h39, h41]; done) | (simp_all [pu_mul, pu_abs]; done), ht⟩) (fun q hq => by cases hq) dX1_multiply_88
                · skip
                  refine lv_iload_n hx hb dX1_multiply_66 rfl (lv_at hl 0 rfl) ?_
                  refine lv_bipush (v := 12) hx hb dX1_multiply_67 (by decide) ?_
                  refine lv_ior hx hb dX1_multiply_69 ?_
                  exact W.iret (v := ((x ^^^ y) &&& 16) ||| 12) hx hb hr (fun t ht hW => ⟨((x ^^^ y) &&& 16) ||| 12, rfl, by first | (simp only [pu_mul, pu_abs, h2, h4, h6, h26, h28, h37, h39, h41, ↓reduceIte, not_true_eq_false, not_false_eq_true, and_true, true_and, and_false, false_and, or_true, true_or, or_false, false_or, and_self, or_self]; done) | (simp [pu_mul, pu_abs, h2, h4, h6, h26, h28, h37, h39, h41]; done) | (simp_all [pu_mul, pu_abs]; done), ht⟩) (fun q hq => by cases hq) dX1_multiply_70
            · skip
              refine lv_bipush (v := 13) hx hb dX1_multiply_42 (by decide) ?_
              exact W.iret (v := 13) hx hb hr (fun t ht hW => ⟨13, rfl, by first | (simp only [pu_mul, pu_abs, h2, h4, h6, h26, h28, h37, ↓reduceIte, not_true_eq_false, not_false_eq_true, and_true, true_and, and_false, false_and, or_true, true_or, or_false, false_or, and_self, or_self]; done) | (simp [pu_mul, pu_abs, h2, h4, h6, h26, h28, h37]; done) | (simp_all [pu_mul, pu_abs]; done), ht⟩) (fun q hq => by cases hq) dX1_multiply_44
set_option maxHeartbeats 4000000 in
set_option maxRecDepth 100000 in
theorem ctX1_operate (l : Launch) (k x y : Int32) : Met l yX1_operate wsX1_operate ({ frames := 2, cells := 0, slots := 0, locals := 46 }) (va_Pc [.int k, .int x, .int y] (fun _ => True)) (vp_Si (fun r => r = pu_op k x y)) 0 0 (fun _ => False) := by
  refine Met.ofW (cc := cX1_operate) (maxL := 3) (ret := (some .int)) (by decide) rfl ?_
  intro p e s m args below meth c s₁ B hml hv
  obtain ⟨rfl, -⟩ := hv
  have hx := B.exec
  have hb := B.bytes
  have hr := B.returns
  have hts := atoms_spec (ws := wsX1_operate) B.pre
  have hown : s.vm.findClass RX1 = some m.cls := findClass_of_methodNamed B.named
  have hlocks := B.notSynchronized
  have hl := lv_entry ([.int k, .int x, .int y]) (n := 3) (Nat.le_of_ble_eq_true rfl)
  rw [lg_entry_eq]
  generalize (lg_sl ([.int k, .int x, .int y]) ++ List.replicate (3 - (lg_sl ([.int k, .int x, .int y])).length) Slot.unset).toArray = ls at hl ⊢
  have hl : lv_has ls 3 [(0, .int k), (1, .int x), (2, .int y)] := hl
  refine lv_iload_n hx hb dX1_operate_0 rfl (lv_at hl 0 rfl) ?_
  by_cases k1 : k = 2
  · refine lv_tableIn (off := 75) (tgt := 76) hx hb dX1_operate_1 (by rw [k1]; decide) (by rw [k1]; decide) (by rw [k1]; rfl) (by decide) ?_
    refine lv_iload_n hx hb dX1_operate_76 rfl (lv_at hl 1 rfl) ?_
    refine vp_callSi (W.runS (As := [.int x]) (rest := []) ⟨hx, hb, hml, hown, hts⟩ (ctX1_negate l x) (va_cwS 1 hts (wA_wsS wm_ml_X1_9 wm_st_X1_negate wm_in_X1 wm_cd_X1_negate) rfl rfl rfl (by decide +kernel) ⟨Nat.le_of_ble_eq_true rfl, Nat.le_of_ble_eq_true rfl⟩) ⟨fun a U g mk q => q, fun U hU hW => ⟨rfl, trivial⟩⟩ rfl rfl hl.1 rfl (lv_room (Nat.le_of_ble_eq_true rfl)) dX1_operate_77 ⟨Nat.zero_le _, Nat.zero_le _⟩) (fun r2 er2 => ?_)
    subst er2
    exact W.iret (v := pu_neg x) hx hb hr (fun t ht hW => ⟨pu_neg x, rfl, by first | (subst k1; simp [pu_op, pu_nan]; done) | (simp [pu_op, k1]; done) | (subst k1; simp_all [pu_op]; done) | (simp_all [pu_op]; done), ht⟩) (fun q hq => by cases hq) dX1_operate_80
  by_cases k3 : k = 3
  · refine lv_tableIn (off := 80) (tgt := 81) hx hb dX1_operate_1 (by rw [k3]; decide) (by rw [k3]; decide) (by rw [k3]; rfl) (by decide) ?_
    refine lv_iload_n hx hb dX1_operate_81 rfl (lv_at hl 1 rfl) ?_
    refine lv_bipush (v := 15) hx hb dX1_operate_82 (by decide) ?_
    refine lv_iand hx hb dX1_operate_84 ?_
    exact W.iret (v := x &&& 15) hx hb hr (fun t ht hW => ⟨x &&& 15, rfl, by first | (subst k3; simp [pu_op, pu_nan]; done) | (simp [pu_op, k1, k3]; done) | (subst k3; simp_all [pu_op]; done) | (simp_all [pu_op]; done), ht⟩) (fun q hq => by cases hq) dX1_operate_85
  by_cases k4 : k = 4
  · refine lv_tableIn (off := 85) (tgt := 86) hx hb dX1_operate_1 (by rw [k4]; decide) (by rw [k4]; decide) (by rw [k4]; rfl) (by decide) ?_
    refine lv_iload_n hx hb dX1_operate_86 rfl (lv_at hl 1 rfl) ?_
    refine lv_iload_n hx hb dX1_operate_87 rfl (lv_at hl 2 rfl) ?_
    refine vp_callSi (W.runS (As := [.int x, .int y]) (rest := []) ⟨hx, hb, hml, hown, hts⟩ (ctX1_add l x y) (va_cwS 2 hts (wA_wsS wm_ml_X1_15 wm_st_X1_add wm_in_X1 wm_cd_X1_add) rfl rfl rfl (by decide +kernel) ⟨Nat.le_of_ble_eq_true rfl, Nat.le_of_ble_eq_true rfl⟩) ⟨fun a U g mk q => q, fun U hU hW => ⟨rfl, trivial⟩⟩ rfl rfl hl.1 rfl (lv_room (Nat.le_of_ble_eq_true rfl)) dX1_operate_88 ⟨Nat.zero_le _, Nat.zero_le _⟩) (fun r5 er5 => ?_)
    subst er5
    exact W.iret (v := pu_add x y) hx hb hr (fun t ht hW => ⟨pu_add x y, rfl, by first | (subst k4; simp [pu_op, pu_nan]; done) | (simp [pu_op, k1, k3, k4]; done) | (subst k4; simp_all [pu_op]; done) | (simp_all [pu_op]; done), ht⟩) (fun q hq => by cases hq) dX1_operate_91
  by_cases k6 : k = 5
  · refine lv_tableIn (off := 91) (tgt := 92) hx hb dX1_operate_1 (by rw [k6]; decide) (by rw [k6]; decide) (by rw [k6]; rfl) (by decide) ?_
    refine lv_iload_n hx hb dX1_operate_92 rfl (lv_at hl 1 rfl) ?_
    refine lv_iload_n hx hb dX1_operate_93 rfl (lv_at hl 2 rfl) ?_
    refine vp_callSi (W.runS (As := [.int y]) (rest := [.int x]) ⟨hx, hb, hml, hown, hts⟩ (ctX1_negate l y) (va_cwS 1 hts (wA_wsS wm_ml_X1_9 wm_st_X1_negate wm_in_X1 wm_cd_X1_negate) rfl rfl rfl (by decide +kernel) ⟨Nat.le_of_ble_eq_true rfl, Nat.le_of_ble_eq_true rfl⟩) ⟨fun a U g mk q => q, fun U hU hW => ⟨rfl, trivial⟩⟩ rfl rfl hl.1 rfl (lv_room (Nat.le_of_ble_eq_true rfl)) dX1_operate_94 ⟨Nat.zero_le _, Nat.zero_le _⟩) (fun r7 er7 => ?_)
    subst er7
    refine vp_callSi (W.runS (As := [.int x, .int (pu_neg y)]) (rest := []) ⟨hx, hb, hml, hown, hts⟩ (ctX1_add l x (pu_neg y)) (va_cwS 2 hts (wA_wsS wm_ml_X1_15 wm_st_X1_add wm_in_X1 wm_cd_X1_add) rfl rfl rfl (by decide +kernel) ⟨Nat.le_of_ble_eq_true rfl, Nat.le_of_ble_eq_true rfl⟩) ⟨fun a U g mk q => q, fun U hU hW => ⟨rfl, trivial⟩⟩ rfl rfl hl.1 rfl (lv_room (Nat.le_of_ble_eq_true rfl)) dX1_operate_97 ⟨Nat.zero_le _, Nat.zero_le _⟩) (fun r8 er8 => ?_)
    subst er8
    exact W.iret (v := pu_add x (pu_neg y)) hx hb hr (fun t ht hW => ⟨pu_add x (pu_neg y), rfl, by first | (subst k6; simp [pu_op, pu_nan]; done) | (simp [pu_op, k1, k3, k4, k6]; done) | (subst k6; simp_all [pu_op]; done) | (simp_all [pu_op]; done), ht⟩) (fun q hq => by cases hq) dX1_operate_100
  by_cases k9 : k = 6
  · refine lv_tableIn (off := 100) (tgt := 101) hx hb dX1_operate_1 (by rw [k9]; decide) (by rw [k9]; decide) (by rw [k9]; rfl) (by decide) ?_
    refine lv_iload_n hx hb dX1_operate_101 rfl (lv_at hl 1 rfl) ?_
    refine lv_iload_n hx hb dX1_operate_102 rfl (lv_at hl 2 rfl) ?_
    refine vp_callSi (W.runS (As := [.int x, .int y]) (rest := []) ⟨hx, hb, hml, hown, hts⟩ (ctX1_multiply l x y) (va_cwS 2 hts (wA_wsS wm_ml_X1_19 wm_st_X1_multiply wm_in_X1 wm_cd_X1_multiply) rfl rfl rfl (by decide +kernel) ⟨Nat.le_of_ble_eq_true rfl, Nat.le_of_ble_eq_true rfl⟩) ⟨fun a U g mk q => q, fun U hU hW => ⟨rfl, trivial⟩⟩ rfl rfl hl.1 rfl (lv_room (Nat.le_of_ble_eq_true rfl)) dX1_operate_103 ⟨Nat.zero_le _, Nat.zero_le _⟩) (fun r10 er10 => ?_)
    subst er10
    exact W.iret (v := pu_mul x y) hx hb hr (fun t ht hW => ⟨pu_mul x y, rfl, by first | (subst k9; simp [pu_op, pu_nan]; done) | (simp [pu_op, k1, k3, k4, k6, k9]; done) | (subst k9; simp_all [pu_op]; done) | (simp_all [pu_op]; done), ht⟩) (fun q hq => by cases hq) dX1_operate_106
  by_cases k11 : k = 7
  · refine lv_tableIn (off := 106) (tgt := 107) hx hb dX1_operate_1 (by rw [k11]; decide) (by rw [k11]; decide) (by rw [k11]; rfl) (by decide) ?_
    refine lv_iload_n hx hb dX1_operate_107 rfl (lv_at hl 1 rfl) ?_
    refine vp_callSi (W.runS (As := [.int x]) (rest := []) ⟨hx, hb, hml, hown, hts⟩ (ctX1_isNan l x) (va_cwS 1 hts (wA_wsS wm_ml_X1_22 wm_st_X1_isNan wm_in_X1 wm_cd_X1_isNan) rfl rfl rfl (by decide +kernel) ⟨Nat.le_of_ble_eq_true rfl, Nat.le_of_ble_eq_true rfl⟩) ⟨fun a U g mk q => q, fun U hU hW => ⟨rfl, trivial⟩⟩ rfl rfl hl.1 rfl (lv_room (Nat.le_of_ble_eq_true rfl)) dX1_operate_108 ⟨Nat.zero_le _, Nat.zero_le _⟩) (fun r12 er12 => ?_)
    subst er12
    refine lv_if_ne (tgt := 122) hx hb dX1_operate_111 (by decide) (fun h13 => ?_) (fun h13 => ?_)
    · skip
      refine lv_iload_n hx hb dX1_operate_122 rfl (lv_at hl 2 rfl) ?_
      refine lv_goto (tgt := 127) hx hb dX1_operate_123 (by decide) ?_
      exact W.iret (v := y) hx hb hr (fun t ht hW => ⟨y, rfl, by first | (subst k11; simp [pu_op, h13]; done) | (simp [pu_op, k1, k3, k4, k6, k9, k11, h13]; done) | (subst k11; simp_all [pu_op]; done) | (simp_all [pu_op]; done), ht⟩) (fun q hq => by cases hq) dX1_operate_127
    · skip
      refine lv_iload_n hx hb dX1_operate_114 rfl (lv_at hl 2 rfl) ?_
      refine lv_iload_n hx hb dX1_operate_115 rfl (lv_at hl 1 rfl) ?_
      refine vp_callSi (W.runS (As := [.int y, .int x]) (rest := []) ⟨hx, hb, hml, hown, hts⟩ (ctX1_isLess l y x) (va_cwS 2 hts (wA_wsS wm_ml_X1_26 wm_st_X1_isLess wm_in_X1 wm_cd_X1_isLess) rfl rfl rfl (by decide +kernel) ⟨Nat.le_of_ble_eq_true rfl, Nat.le_of_ble_eq_true rfl⟩) ⟨fun a U g mk q => q, fun U hU hW => ⟨rfl, trivial⟩⟩ rfl rfl hl.1 rfl (lv_room (Nat.le_of_ble_eq_true rfl)) dX1_operate_116 ⟨Nat.zero_le _, Nat.zero_le _⟩) (fun r14 er14 => ?_)
      subst er14
      refine lv_if_eq (tgt := 126) hx hb dX1_operate_119 (by decide) (fun h15 => ?_) (fun h15 => ?_)
      · skip
        refine lv_iload_n hx hb dX1_operate_126 rfl (lv_at hl 1 rfl) ?_
        exact W.iret (v := x) hx hb hr (fun t ht hW => ⟨x, rfl, by first | (subst k11; simp [pu_op, h13, h15]; done) | (simp [pu_op, k1, k3, k4, k6, k9, k11, h13, h15]; done) | (subst k11; simp_all [pu_op]; done) | (simp_all [pu_op]; done), ht⟩) (fun q hq => by cases hq) dX1_operate_127
      · skip
        refine lv_iload_n hx hb dX1_operate_122 rfl (lv_at hl 2 rfl) ?_
        refine lv_goto (tgt := 127) hx hb dX1_operate_123 (by decide) ?_
        exact W.iret (v := y) hx hb hr (fun t ht hW => ⟨y, rfl, by first | (subst k11; simp [pu_op, h13, h15]; done) | (simp [pu_op, k1, k3, k4, k6, k9, k11, h13, h15]; done) | (subst k11; simp_all [pu_op]; done) | (simp_all [pu_op]; done), ht⟩) (fun q hq => by cases hq) dX1_operate_127
  by_cases k16 : k = 8
  · refine lv_tableIn (off := 127) (tgt := 128) hx hb dX1_operate_1 (by rw [k16]; decide) (by rw [k16]; decide) (by rw [k16]; rfl) (by decide) ?_
    refine lv_iload_n hx hb dX1_operate_128 rfl (lv_at hl 1 rfl) ?_
    refine vp_callSi (W.runS (As := [.int x]) (rest := []) ⟨hx, hb, hml, hown, hts⟩ (ctX1_isNan l x) (va_cwS 1 hts (wA_wsS wm_ml_X1_22 wm_st_X1_isNan wm_in_X1 wm_cd_X1_isNan) rfl rfl rfl (by decide +kernel) ⟨Nat.le_of_ble_eq_true rfl, Nat.le_of_ble_eq_true rfl⟩) ⟨fun a U g mk q => q, fun U hU hW => ⟨rfl, trivial⟩⟩ rfl rfl hl.1 rfl (lv_room (Nat.le_of_ble_eq_true rfl)) dX1_operate_129 ⟨Nat.zero_le _, Nat.zero_le _⟩) (fun r17 er17 => ?_)
    subst er17
    refine lv_if_ne (tgt := 143) hx hb dX1_operate_132 (by decide) (fun h18 => ?_) (fun h18 => ?_)
    · skip
      refine lv_iload_n hx hb dX1_operate_143 rfl (lv_at hl 2 rfl) ?_
      refine lv_goto (tgt := 148) hx hb dX1_operate_144 (by decide) ?_
      exact W.iret (v := y) hx hb hr (fun t ht hW => ⟨y, rfl, by first | (subst k16; simp [pu_op, h18]; done) | (simp [pu_op, k1, k3, k4, k6, k9, k11, k16, h18]; done) | (subst k16; simp_all [pu_op]; done) | (simp_all [pu_op]; done), ht⟩) (fun q hq => by cases hq) dX1_operate_148
    · skip
      refine lv_iload_n hx hb dX1_operate_135 rfl (lv_at hl 1 rfl) ?_
      refine lv_iload_n hx hb dX1_operate_136 rfl (lv_at hl 2 rfl) ?_
      refine vp_callSi (W.runS (As := [.int x, .int y]) (rest := []) ⟨hx, hb, hml, hown, hts⟩ (ctX1_isLess l x y) (va_cwS 2 hts (wA_wsS wm_ml_X1_26 wm_st_X1_isLess wm_in_X1 wm_cd_X1_isLess) rfl rfl rfl (by decide +kernel) ⟨Nat.le_of_ble_eq_true rfl, Nat.le_of_ble_eq_true rfl⟩) ⟨fun a U g mk q => q, fun U hU hW => ⟨rfl, trivial⟩⟩ rfl rfl hl.1 rfl (lv_room (Nat.le_of_ble_eq_true rfl)) dX1_operate_137 ⟨Nat.zero_le _, Nat.zero_le _⟩) (fun r19 er19 => ?_)
      subst er19
      refine lv_if_eq (tgt := 147) hx hb dX1_operate_140 (by decide) (fun h20 => ?_) (fun h20 => ?_)
      · skip
        refine lv_iload_n hx hb dX1_operate_147 rfl (lv_at hl 1 rfl) ?_
        exact W.iret (v := x) hx hb hr (fun t ht hW => ⟨x, rfl, by first | (subst k16; simp [pu_op, h18, h20]; done) | (simp [pu_op, k1, k3, k4, k6, k9, k11, k16, h18, h20]; done) | (subst k16; simp_all [pu_op]; done) | (simp_all [pu_op]; done), ht⟩) (fun q hq => by cases hq) dX1_operate_148
      · skip
        refine lv_iload_n hx hb dX1_operate_143 rfl (lv_at hl 2 rfl) ?_
        refine lv_goto (tgt := 148) hx hb dX1_operate_144 (by decide) ?_
        exact W.iret (v := y) hx hb hr (fun t ht hW => ⟨y, rfl, by first | (subst k16; simp [pu_op, h18, h20]; done) | (simp [pu_op, k1, k3, k4, k6, k9, k11, k16, h18, h20]; done) | (subst k16; simp_all [pu_op]; done) | (simp_all [pu_op]; done), ht⟩) (fun q hq => by cases hq) dX1_operate_148
  by_cases k21 : k = 10
  · refine lv_tableIn (off := 148) (tgt := 149) hx hb dX1_operate_1 (by rw [k21]; decide) (by rw [k21]; decide) (by rw [k21]; rfl) (by decide) ?_
    refine lv_iload_n hx hb dX1_operate_149 rfl (lv_at hl 1 rfl) ?_
    refine lv_iload_n hx hb dX1_operate_150 rfl (lv_at hl 2 rfl) ?_
    refine lv_icmp_eq (tgt := 168) hx hb dX1_operate_151 (by decide) (fun h22 => ?_) (fun h22 => ?_)
    · skip
      refine lv_iconst (v := 1) hx hb dX1_operate_168 (by decide) ?_
      refine lv_goto (tgt := 173) hx hb dX1_operate_169 (by decide) ?_
      exact W.iret (v := 1) hx hb hr (fun t ht hW => ⟨1, rfl, by first | (subst k21; simp [pu_op, h22]; done) | (simp [pu_op, k1, k3, k4, k6, k9, k11, k16, k21, h22]; done) | (subst k21; simp_all [pu_op]; done) | (simp_all [pu_op]; done), ht⟩) (fun q hq => by cases hq) dX1_operate_173
    · skip
      refine lv_iload_n hx hb dX1_operate_154 rfl (lv_at hl 1 rfl) ?_
      refine vp_callSi (W.runS (As := [.int x]) (rest := []) ⟨hx, hb, hml, hown, hts⟩ (ctX1_isNan l x) (va_cwS 1 hts (wA_wsS wm_ml_X1_22 wm_st_X1_isNan wm_in_X1 wm_cd_X1_isNan) rfl rfl rfl (by decide +kernel) ⟨Nat.le_of_ble_eq_true rfl, Nat.le_of_ble_eq_true rfl⟩) ⟨fun a U g mk q => q, fun U hU hW => ⟨rfl, trivial⟩⟩ rfl rfl hl.1 rfl (lv_room (Nat.le_of_ble_eq_true rfl)) dX1_operate_155 ⟨Nat.zero_le _, Nat.zero_le _⟩) (fun r23 er23 => ?_)
      subst er23
      refine lv_if_eq (tgt := 172) hx hb dX1_operate_158 (by decide) (fun h24 => ?_) (fun h24 => ?_)
      · skip
        refine lv_iconst (v := 0) hx hb dX1_operate_172 (by decide) ?_
        exact W.iret (v := 0) hx hb hr (fun t ht hW => ⟨0, rfl, by first | (subst k21; simp [pu_op, h22, h24]; done) | (simp [pu_op, k1, k3, k4, k6, k9, k11, k16, k21, h22, h24]; done) | (subst k21; simp_all [pu_op]; done) | (simp_all [pu_op]; done), ht⟩) (fun q hq => by cases hq) dX1_operate_173
      · skip
        refine lv_iload_n hx hb dX1_operate_161 rfl (lv_at hl 2 rfl) ?_
        refine vp_callSi (W.runS (As := [.int y]) (rest := []) ⟨hx, hb, hml, hown, hts⟩ (ctX1_isNan l y) (va_cwS 1 hts (wA_wsS wm_ml_X1_22 wm_st_X1_isNan wm_in_X1 wm_cd_X1_isNan) rfl rfl rfl (by decide +kernel) ⟨Nat.le_of_ble_eq_true rfl, Nat.le_of_ble_eq_true rfl⟩) ⟨fun a U g mk q => q, fun U hU hW => ⟨rfl, trivial⟩⟩ rfl rfl hl.1 rfl (lv_room (Nat.le_of_ble_eq_true rfl)) dX1_operate_162 ⟨Nat.zero_le _, Nat.zero_le _⟩) (fun r25 er25 => ?_)
        subst er25
        refine lv_if_eq (tgt := 172) hx hb dX1_operate_165 (by decide) (fun h26 => ?_) (fun h26 => ?_)
        · skip
          refine lv_iconst (v := 0) hx hb dX1_operate_172 (by decide) ?_
          exact W.iret (v := 0) hx hb hr (fun t ht hW => ⟨0, rfl, by first | (subst k21; simp [pu_op, h22, h24, h26]; done) | (simp [pu_op, k1, k3, k4, k6, k9, k11, k16, k21, h22, h24, h26]; done) | (subst k21; simp_all [pu_op]; done) | (simp_all [pu_op]; done), ht⟩) (fun q hq => by cases hq) dX1_operate_173
        · skip
          refine lv_iconst (v := 1) hx hb dX1_operate_168 (by decide) ?_
          refine lv_goto (tgt := 173) hx hb dX1_operate_169 (by decide) ?_
          exact W.iret (v := 1) hx hb hr (fun t ht hW => ⟨1, rfl, by first | (subst k21; simp [pu_op, h22, h24, h26]; done) | (simp [pu_op, k1, k3, k4, k6, k9, k11, k16, k21, h22, h24, h26]; done) | (subst k21; simp_all [pu_op]; done) | (simp_all [pu_op]; done), ht⟩) (fun q hq => by cases hq) dX1_operate_173
  by_cases k27 : k = 11
  · refine lv_tableIn (off := 173) (tgt := 174) hx hb dX1_operate_1 (by rw [k27]; decide) (by rw [k27]; decide) (by rw [k27]; rfl) (by decide) ?_
    refine lv_iload_n hx hb dX1_operate_174 rfl (lv_at hl 1 rfl) ?_
    refine lv_iload_n hx hb dX1_operate_175 rfl (lv_at hl 2 rfl) ?_
    refine vp_callSi (W.runS (As := [.int x, .int y]) (rest := []) ⟨hx, hb, hml, hown, hts⟩ (ctX1_isEqual l x y) (va_cwS 2 hts (wA_wsS wm_ml_X1_30 wm_st_X1_isEqual wm_in_X1 wm_cd_X1_isEqual) rfl rfl rfl (by decide +kernel) ⟨Nat.le_of_ble_eq_true rfl, Nat.le_of_ble_eq_true rfl⟩) ⟨fun a U g mk q => q, fun U hU hW => ⟨rfl, trivial⟩⟩ rfl rfl hl.1 rfl (lv_room (Nat.le_of_ble_eq_true rfl)) dX1_operate_176 ⟨Nat.zero_le _, Nat.zero_le _⟩) (fun r28 er28 => ?_)
    subst er28
    refine lv_if_eq (tgt := 186) hx hb dX1_operate_179 (by decide) (fun h29 => ?_) (fun h29 => ?_)
    · skip
      refine lv_iconst (v := 0) hx hb dX1_operate_186 (by decide) ?_
      exact W.iret (v := 0) hx hb hr (fun t ht hW => ⟨0, rfl, by first | (subst k27; simp [pu_op, h29]; done) | (simp [pu_op, k1, k3, k4, k6, k9, k11, k16, k21, k27, h29]; done) | (subst k27; simp_all [pu_op]; done) | (simp_all [pu_op]; done), ht⟩) (fun q hq => by cases hq) dX1_operate_187
    · skip
      refine lv_iconst (v := 1) hx hb dX1_operate_182 (by decide) ?_
      refine lv_goto (tgt := 187) hx hb dX1_operate_183 (by decide) ?_
      exact W.iret (v := 1) hx hb hr (fun t ht hW => ⟨1, rfl, by first | (subst k27; simp [pu_op, h29]; done) | (simp [pu_op, k1, k3, k4, k6, k9, k11, k16, k21, k27, h29]; done) | (subst k27; simp_all [pu_op]; done) | (simp_all [pu_op]; done), ht⟩) (fun q hq => by cases hq) dX1_operate_187
  by_cases k30 : k = 12
  · refine lv_tableIn (off := 187) (tgt := 188) hx hb dX1_operate_1 (by rw [k30]; decide) (by rw [k30]; decide) (by rw [k30]; rfl) (by decide) ?_
    refine lv_iload_n hx hb dX1_operate_188 rfl (lv_at hl 1 rfl) ?_
    refine lv_iload_n hx hb dX1_operate_189 rfl (lv_at hl 2 rfl) ?_
    refine vp_callSi (W.runS (As := [.int x, .int y]) (rest := []) ⟨hx, hb, hml, hown, hts⟩ (ctX1_isLess l x y) (va_cwS 2 hts (wA_wsS wm_ml_X1_26 wm_st_X1_isLess wm_in_X1 wm_cd_X1_isLess) rfl rfl rfl (by decide +kernel) ⟨Nat.le_of_ble_eq_true rfl, Nat.le_of_ble_eq_true rfl⟩) ⟨fun a U g mk q => q, fun U hU hW => ⟨rfl, trivial⟩⟩ rfl rfl hl.1 rfl (lv_room (Nat.le_of_ble_eq_true rfl)) dX1_operate_190 ⟨Nat.zero_le _, Nat.zero_le _⟩) (fun r31 er31 => ?_)
    subst er31
    refine lv_if_eq (tgt := 200) hx hb dX1_operate_193 (by decide) (fun h32 => ?_) (fun h32 => ?_)
    · skip
      refine lv_iconst (v := 0) hx hb dX1_operate_200 (by decide) ?_
      exact W.iret (v := 0) hx hb hr (fun t ht hW => ⟨0, rfl, by first | (subst k30; simp [pu_op, h32]; done) | (simp [pu_op, k1, k3, k4, k6, k9, k11, k16, k21, k27, k30, h32]; done) | (subst k30; simp_all [pu_op]; done) | (simp_all [pu_op]; done), ht⟩) (fun q hq => by cases hq) dX1_operate_201
    · skip
      refine lv_iconst (v := 1) hx hb dX1_operate_196 (by decide) ?_
      refine lv_goto (tgt := 201) hx hb dX1_operate_197 (by decide) ?_
      exact W.iret (v := 1) hx hb hr (fun t ht hW => ⟨1, rfl, by first | (subst k30; simp [pu_op, h32]; done) | (simp [pu_op, k1, k3, k4, k6, k9, k11, k16, k21, k27, k30, h32]; done) | (subst k30; simp_all [pu_op]; done) | (simp_all [pu_op]; done), ht⟩) (fun q hq => by cases hq) dX1_operate_201
  by_cases k33 : k = 13
  · refine lv_tableIn (off := 201) (tgt := 202) hx hb dX1_operate_1 (by rw [k33]; decide) (by rw [k33]; decide) (by rw [k33]; rfl) (by decide) ?_
    refine lv_iload_n hx hb dX1_operate_202 rfl (lv_at hl 1 rfl) ?_
    refine lv_iload_n hx hb dX1_operate_203 rfl (lv_at hl 2 rfl) ?_
    refine vp_callSi (W.runS (As := [.int x, .int y]) (rest := []) ⟨hx, hb, hml, hown, hts⟩ (ctX1_isLess l x y) (va_cwS 2 hts (wA_wsS wm_ml_X1_26 wm_st_X1_isLess wm_in_X1 wm_cd_X1_isLess) rfl rfl rfl (by decide +kernel) ⟨Nat.le_of_ble_eq_true rfl, Nat.le_of_ble_eq_true rfl⟩) ⟨fun a U g mk q => q, fun U hU hW => ⟨rfl, trivial⟩⟩ rfl rfl hl.1 rfl (lv_room (Nat.le_of_ble_eq_true rfl)) dX1_operate_204 ⟨Nat.zero_le _, Nat.zero_le _⟩) (fun r34 er34 => ?_)
    subst er34
    refine lv_if_ne (tgt := 218) hx hb dX1_operate_207 (by decide) (fun h35 => ?_) (fun h35 => ?_)
    · skip
      refine lv_iconst (v := 1) hx hb dX1_operate_218 (by decide) ?_
      refine lv_goto (tgt := 223) hx hb dX1_operate_219 (by decide) ?_
      exact W.iret (v := 1) hx hb hr (fun t ht hW => ⟨1, rfl, by first | (subst k33; simp [pu_op, h35]; done) | (simp [pu_op, k1, k3, k4, k6, k9, k11, k16, k21, k27, k30, k33, h35]; done) | (subst k33; simp_all [pu_op]; done) | (simp_all [pu_op]; done), ht⟩) (fun q hq => by cases hq) dX1_operate_223
    · skip
      refine lv_iload_n hx hb dX1_operate_210 rfl (lv_at hl 1 rfl) ?_
      refine lv_iload_n hx hb dX1_operate_211 rfl (lv_at hl 2 rfl) ?_
      refine vp_callSi (W.runS (As := [.int x, .int y]) (rest := []) ⟨hx, hb, hml, hown, hts⟩ (ctX1_isEqual l x y) (va_cwS 2 hts (wA_wsS wm_ml_X1_30 wm_st_X1_isEqual wm_in_X1 wm_cd_X1_isEqual) rfl rfl rfl (by decide +kernel) ⟨Nat.le_of_ble_eq_true rfl, Nat.le_of_ble_eq_true rfl⟩) ⟨fun a U g mk q => q, fun U hU hW => ⟨rfl, trivial⟩⟩ rfl rfl hl.1 rfl (lv_room (Nat.le_of_ble_eq_true rfl)) dX1_operate_212 ⟨Nat.zero_le _, Nat.zero_le _⟩) (fun r36 er36 => ?_)
      subst er36
      refine lv_if_eq (tgt := 222) hx hb dX1_operate_215 (by decide) (fun h37 => ?_) (fun h37 => ?_)
      · skip
        refine lv_iconst (v := 0) hx hb dX1_operate_222 (by decide) ?_
        exact W.iret (v := 0) hx hb hr (fun t ht hW => ⟨0, rfl, by first | (subst k33; simp [pu_op, h35, h37]; done) | (simp [pu_op, k1, k3, k4, k6, k9, k11, k16, k21, k27, k30, k33, h35, h37]; done) | (subst k33; simp_all [pu_op]; done) | (simp_all [pu_op]; done), ht⟩) (fun q hq => by cases hq) dX1_operate_223
      · skip
        refine lv_iconst (v := 1) hx hb dX1_operate_218 (by decide) ?_
        refine lv_goto (tgt := 223) hx hb dX1_operate_219 (by decide) ?_
        exact W.iret (v := 1) hx hb hr (fun t ht hW => ⟨1, rfl, by first | (subst k33; simp [pu_op, h35, h37]; done) | (simp [pu_op, k1, k3, k4, k6, k9, k11, k16, k21, k27, k30, k33, h35, h37]; done) | (subst k33; simp_all [pu_op]; done) | (simp_all [pu_op]; done), ht⟩) (fun q hq => by cases hq) dX1_operate_223
  by_cases k38 : k = 14
  · refine lv_tableIn (off := 223) (tgt := 224) hx hb dX1_operate_1 (by rw [k38]; decide) (by rw [k38]; decide) (by rw [k38]; rfl) (by decide) ?_
    refine lv_iload_n hx hb dX1_operate_224 rfl (lv_at hl 1 rfl) ?_
    refine vp_callSi (W.runS (As := [.int x]) (rest := []) ⟨hx, hb, hml, hown, hts⟩ (ctX1_isNan l x) (va_cwS 1 hts (wA_wsS wm_ml_X1_22 wm_st_X1_isNan wm_in_X1 wm_cd_X1_isNan) rfl rfl rfl (by decide +kernel) ⟨Nat.le_of_ble_eq_true rfl, Nat.le_of_ble_eq_true rfl⟩) ⟨fun a U g mk q => q, fun U hU hW => ⟨rfl, trivial⟩⟩ rfl rfl hl.1 rfl (lv_room (Nat.le_of_ble_eq_true rfl)) dX1_operate_225 ⟨Nat.zero_le _, Nat.zero_le _⟩) (fun r39 er39 => ?_)
    subst er39
    refine lv_if_eq (tgt := 235) hx hb dX1_operate_228 (by decide) (fun h40 => ?_) (fun h40 => ?_)
    · skip
      refine lv_iconst (v := 0) hx hb dX1_operate_235 (by decide) ?_
      exact W.iret (v := 0) hx hb hr (fun t ht hW => ⟨0, rfl, by first | (subst k38; simp [pu_op, h40]; done) | (simp [pu_op, k1, k3, k4, k6, k9, k11, k16, k21, k27, k30, k33, k38, h40]; done) | (subst k38; simp_all [pu_op]; done) | (simp_all [pu_op]; done), ht⟩) (fun q hq => by cases hq) dX1_operate_236
    · skip
      refine lv_iconst (v := 1) hx hb dX1_operate_231 (by decide) ?_
      refine lv_goto (tgt := 236) hx hb dX1_operate_232 (by decide) ?_
      exact W.iret (v := 1) hx hb hr (fun t ht hW => ⟨1, rfl, by first | (subst k38; simp [pu_op, h40]; done) | (simp [pu_op, k1, k3, k4, k6, k9, k11, k16, k21, k27, k30, k33, k38, h40]; done) | (subst k38; simp_all [pu_op]; done) | (simp_all [pu_op]; done), ht⟩) (fun q hq => by cases hq) dX1_operate_236
  by_cases k41 : k = 15
  · refine lv_tableIn (off := 236) (tgt := 237) hx hb dX1_operate_1 (by rw [k41]; decide) (by rw [k41]; decide) (by rw [k41]; rfl) (by decide) ?_
    refine lv_iload_n hx hb dX1_operate_237 rfl (lv_at hl 1 rfl) ?_
    refine vp_callSi (W.runS (As := [.int x]) (rest := []) ⟨hx, hb, hml, hown, hts⟩ (ctX1_isInfinite l x) (va_cwS 1 hts (wA_wsS wm_ml_X1_33 wm_st_X1_isInfinite wm_in_X1 wm_cd_X1_isInfinite) rfl rfl rfl (by decide +kernel) ⟨Nat.le_of_ble_eq_true rfl, Nat.le_of_ble_eq_true rfl⟩) ⟨fun a U g mk q => q, fun U hU hW => ⟨rfl, trivial⟩⟩ rfl rfl hl.1 rfl (lv_room (Nat.le_of_ble_eq_true rfl)) dX1_operate_238 ⟨Nat.zero_le _, Nat.zero_le _⟩) (fun r42 er42 => ?_)
    subst er42
    refine lv_if_eq (tgt := 248) hx hb dX1_operate_241 (by decide) (fun h43 => ?_) (fun h43 => ?_)
    · skip
      refine lv_iconst (v := 0) hx hb dX1_operate_248 (by decide) ?_
      exact W.iret (v := 0) hx hb hr (fun t ht hW => ⟨0, rfl, by first | (subst k41; simp [pu_op, h43]; done) | (simp [pu_op, k1, k3, k4, k6, k9, k11, k16, k21, k27, k30, k33, k38, k41, h43]; done) | (subst k41; simp_all [pu_op]; done) | (simp_all [pu_op]; done), ht⟩) (fun q hq => by cases hq) dX1_operate_249
    · skip
      refine lv_iconst (v := 1) hx hb dX1_operate_244 (by decide) ?_
      refine lv_goto (tgt := 249) hx hb dX1_operate_245 (by decide) ?_
      exact W.iret (v := 1) hx hb hr (fun t ht hW => ⟨1, rfl, by first | (subst k41; simp [pu_op, h43]; done) | (simp [pu_op, k1, k3, k4, k6, k9, k11, k16, k21, k27, k30, k33, k38, k41, h43]; done) | (subst k41; simp_all [pu_op]; done) | (simp_all [pu_op]; done), ht⟩) (fun q hq => by cases hq) dX1_operate_249
  by_cases k44 : k = 16
  · refine lv_tableIn (off := 249) (tgt := 250) hx hb dX1_operate_1 (by rw [k44]; decide) (by rw [k44]; decide) (by rw [k44]; rfl) (by decide) ?_
    refine lv_iload_n hx hb dX1_operate_250 rfl (lv_at hl 1 rfl) ?_
    refine vp_callSi (W.runS (As := [.int x]) (rest := []) ⟨hx, hb, hml, hown, hts⟩ (ctX1_isZero l x) (va_cwS 1 hts (wA_wsS wm_ml_X1_36 wm_st_X1_isZero wm_in_X1 wm_cd_X1_isZero) rfl rfl rfl (by decide +kernel) ⟨Nat.le_of_ble_eq_true rfl, Nat.le_of_ble_eq_true rfl⟩) ⟨fun a U g mk q => q, fun U hU hW => ⟨rfl, trivial⟩⟩ rfl rfl hl.1 rfl (lv_room (Nat.le_of_ble_eq_true rfl)) dX1_operate_251 ⟨Nat.zero_le _, Nat.zero_le _⟩) (fun r45 er45 => ?_)
    subst er45
    refine lv_if_eq (tgt := 261) hx hb dX1_operate_254 (by decide) (fun h46 => ?_) (fun h46 => ?_)
    · skip
      refine lv_iconst (v := 0) hx hb dX1_operate_261 (by decide) ?_
      exact W.iret (v := 0) hx hb hr (fun t ht hW => ⟨0, rfl, by first | (subst k44; simp [pu_op, h46]; done) | (simp [pu_op, k1, k3, k4, k6, k9, k11, k16, k21, k27, k30, k33, k38, k41, k44, h46]; done) | (subst k44; simp_all [pu_op]; done) | (simp_all [pu_op]; done), ht⟩) (fun q hq => by cases hq) dX1_operate_262
    · skip
      refine lv_iconst (v := 1) hx hb dX1_operate_257 (by decide) ?_
      refine lv_goto (tgt := 262) hx hb dX1_operate_258 (by decide) ?_
      exact W.iret (v := 1) hx hb hr (fun t ht hW => ⟨1, rfl, by first | (subst k44; simp [pu_op, h46]; done) | (simp [pu_op, k1, k3, k4, k6, k9, k11, k16, k21, k27, k30, k33, k38, k41, k44, h46]; done) | (subst k44; simp_all [pu_op]; done) | (simp_all [pu_op]; done), ht⟩) (fun q hq => by cases hq) dX1_operate_262
  by_cases k47 : k = 9
  · refine lv_tableIn (off := 262) (tgt := 263) hx hb dX1_operate_1 (by rw [k47]; decide) (by rw [k47]; decide) (by rw [k47]; rfl) (by decide) ?_
    refine lv_iconst (v := 0) hx hb dX1_operate_263 (by decide) ?_
    exact W.iret (v := 0) hx hb hr (fun t ht hW => ⟨0, rfl, by first | (subst k47; simp [pu_op, pu_nan]; done) | (simp [pu_op, k1, k3, k4, k6, k9, k11, k16, k21, k27, k30, k33, k38, k41, k44, k47]; done) | (subst k47; simp_all [pu_op]; done) | (simp_all [pu_op]; done), ht⟩) (fun q hq => by cases hq) dX1_operate_264
  refine lv_tableOut (tgt := 263) hx hb dX1_operate_1 (sw_out 2 16 (by decide) (fun j h1 h2 e => ?_)) (by decide) ?_
  · rcases (show j = 2 ∨ j = 3 ∨ j = 4 ∨ j = 5 ∨ j = 6 ∨ j = 7 ∨ j = 8 ∨ j = 9 ∨ j = 10 ∨ j = 11 ∨ j = 12 ∨ j = 13 ∨ j = 14 ∨ j = 15 ∨ j = 16 by omega) with rfl | rfl | rfl | rfl | rfl | rfl | rfl | rfl | rfl | rfl | rfl | rfl | rfl | rfl | rfl
    · exact k1 e
    · exact k3 e
    · exact k4 e
    · exact k6 e
    · exact k9 e
    · exact k11 e
    · exact k16 e
    · exact k47 e
    · exact k21 e
    · exact k27 e
    · exact k30 e
    · exact k33 e
    · exact k38 e
    · exact k41 e
    · exact k44 e
  refine lv_iconst (v := 0) hx hb dX1_operate_263 (by decide) ?_
  exact W.iret (v := 0) hx hb hr (fun t ht hW => ⟨0, rfl, by first | (subst k47; simp [pu_op, pu_nan]; done) | (simp [pu_op, k1, k3, k4, k6, k9, k11, k16, k21, k27, k30, k33, k38, k41, k44, k47]; done) | (subst k47; simp_all [pu_op]; done) | (simp_all [pu_op]; done), ht⟩) (fun q hq => by cases hq) dX1_operate_264
