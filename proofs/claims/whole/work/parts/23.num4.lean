set_option maxHeartbeats 4000000 in
set_option maxRecDepth 100000 in
theorem ctX5_add (l : Launch) (x y : Int32) : Met l yX5_add wsX5_add ({ frames := 2, cells := 0, slots := 0, locals := 46 }) (va_Pc [.int x, .int y] (fun _ => True)) (vp_Si (fun r => r = pm_add x y)) 0 0 (fun _ => False) := by
  refine Met.ofW (cc := cX5_add) (maxL := 3) (ret := (some .int)) (by decide) rfl ?_
  intro p e s m args below meth c s₁ B hml hv
  obtain ⟨rfl, -⟩ := hv
  have hx := B.exec
  have hb := B.bytes
  have hr := B.returns
  have hts := atoms_spec (ws := wsX5_add) B.pre
  have hown : s.vm.findClass RX5 = some m.cls := findClass_of_methodNamed B.named
  have hlocks := B.notSynchronized
  have hl := lv_entry ([.int x, .int y]) (n := 3) (Nat.le_of_ble_eq_true rfl)
  rw [lg_entry_eq]
  generalize (lg_sl ([.int x, .int y]) ++ List.replicate (3 - (lg_sl ([.int x, .int y])).length) Slot.unset).toArray = ls at hl ⊢
  have hl : lv_has ls 3 [(0, .int x), (1, .int y)] := hl
  refine lv_iload_n hx hb dX5_add_0 rfl (lv_at hl 0 rfl) ?_
  refine vp_callSi (W.runS (As := [.int x]) (rest := []) ⟨hx, hb, hml, hown, hts⟩ (ctX5_nan l x) (va_cwS 1 hts (wA_wsS wm_ml_X5_46 wm_st_X5_nan wm_in_X5 wm_cd_X5_nan) rfl rfl rfl (by decide +kernel) ⟨Nat.le_of_ble_eq_true rfl, Nat.le_of_ble_eq_true rfl⟩) ⟨fun a U g mk q => q, fun U hU hW => ⟨rfl, trivial⟩⟩ rfl rfl hl.1 rfl (lv_room (Nat.le_of_ble_eq_true rfl)) dX5_add_1 ⟨Nat.zero_le _, Nat.zero_le _⟩) (fun r1 er1 => ?_)
  subst er1
  refine lv_if_ne (tgt := 33) hx hb dX5_add_4 (by decide) (fun h2 => ?_) (fun h2 => ?_)
  · skip
    refine lv_bipush (v := 13) hx hb dX5_add_33 (by decide) ?_
    exact W.iret (v := 13) hx hb hr (fun t ht hW => ⟨13, rfl, by first | (simp only [pm_add, h2, ↓reduceIte, not_true_eq_false, not_false_eq_true, and_true, true_and, and_false, false_and, or_true, true_or, or_false, false_or, and_self, or_self]; done) | (simp [pm_add, h2]; done) | (simp_all [pm_add]; done), ht⟩) (fun q hq => by cases hq) dX5_add_35
  · skip
    refine lv_iload_n hx hb dX5_add_7 rfl (lv_at hl 1 rfl) ?_
    refine vp_callSi (W.runS (As := [.int y]) (rest := []) ⟨hx, hb, hml, hown, hts⟩ (ctX5_nan l y) (va_cwS 1 hts (wA_wsS wm_ml_X5_46 wm_st_X5_nan wm_in_X5 wm_cd_X5_nan) rfl rfl rfl (by decide +kernel) ⟨Nat.le_of_ble_eq_true rfl, Nat.le_of_ble_eq_true rfl⟩) ⟨fun a U g mk q => q, fun U hU hW => ⟨rfl, trivial⟩⟩ rfl rfl hl.1 rfl (lv_room (Nat.le_of_ble_eq_true rfl)) dX5_add_8 ⟨Nat.zero_le _, Nat.zero_le _⟩) (fun r3 er3 => ?_)
    subst er3
    refine lv_if_ne (tgt := 33) hx hb dX5_add_11 (by decide) (fun h4 => ?_) (fun h4 => ?_)
    · skip
      refine lv_bipush (v := 13) hx hb dX5_add_33 (by decide) ?_
      exact W.iret (v := 13) hx hb hr (fun t ht hW => ⟨13, rfl, by first | (simp only [pm_add, h2, h4, ↓reduceIte, not_true_eq_false, not_false_eq_true, and_true, true_and, and_false, false_and, or_true, true_or, or_false, false_or, and_self, or_self]; done) | (simp [pm_add, h2, h4]; done) | (simp_all [pm_add]; done), ht⟩) (fun q hq => by cases hq) dX5_add_35
    · skip
      refine lv_iload_n hx hb dX5_add_14 rfl (lv_at hl 0 rfl) ?_
      refine vp_callSi (W.runS (As := [.int x]) (rest := []) ⟨hx, hb, hml, hown, hts⟩ (ctX5_infinite l x) (va_cwS 1 hts (wA_wsS wm_ml_X5_38 wm_st_X5_infinite wm_in_X5 wm_cd_X5_infinite) rfl rfl rfl (by decide +kernel) ⟨Nat.le_of_ble_eq_true rfl, Nat.le_of_ble_eq_true rfl⟩) ⟨fun a U g mk q => q, fun U hU hW => ⟨rfl, trivial⟩⟩ rfl rfl hl.1 rfl (lv_room (Nat.le_of_ble_eq_true rfl)) dX5_add_15 ⟨Nat.zero_le _, Nat.zero_le _⟩) (fun r5 er5 => ?_)
      subst er5
      refine lv_if_eq (tgt := 36) hx hb dX5_add_18 (by decide) (fun h6 => ?_) (fun h6 => ?_)
      · skip
        refine lv_iload_n hx hb dX5_add_36 rfl (lv_at hl 0 rfl) ?_
        refine vp_callSi (W.runS (As := [.int x]) (rest := []) ⟨hx, hb, hml, hown, hts⟩ (ctX5_infinite l x) (va_cwS 1 hts (wA_wsS wm_ml_X5_38 wm_st_X5_infinite wm_in_X5 wm_cd_X5_infinite) rfl rfl rfl (by decide +kernel) ⟨Nat.le_of_ble_eq_true rfl, Nat.le_of_ble_eq_true rfl⟩) ⟨fun a U g mk q => q, fun U hU hW => ⟨rfl, trivial⟩⟩ rfl rfl hl.1 rfl (lv_room (Nat.le_of_ble_eq_true rfl)) dX5_add_37 ⟨Nat.zero_le _, Nat.zero_le _⟩) (fun r7 er7 => ?_)
        subst er7
        refine lv_if_eq (tgt := 45) hx hb dX5_add_40 (by decide) (fun h8 => ?_) (fun h8 => ?_)
        · skip
          refine lv_iload_n hx hb dX5_add_45 rfl (lv_at hl 1 rfl) ?_
          refine vp_callSi (W.runS (As := [.int y]) (rest := []) ⟨hx, hb, hml, hown, hts⟩ (ctX5_infinite l y) (va_cwS 1 hts (wA_wsS wm_ml_X5_38 wm_st_X5_infinite wm_in_X5 wm_cd_X5_infinite) rfl rfl rfl (by decide +kernel) ⟨Nat.le_of_ble_eq_true rfl, Nat.le_of_ble_eq_true rfl⟩) ⟨fun a U g mk q => q, fun U hU hW => ⟨rfl, trivial⟩⟩ rfl rfl hl.1 rfl (lv_room (Nat.le_of_ble_eq_true rfl)) dX5_add_46 ⟨Nat.zero_le _, Nat.zero_le _⟩) (fun r9 er9 => ?_)
          subst er9
          refine lv_if_eq (tgt := 54) hx hb dX5_add_49 (by decide) (fun h10 => ?_) (fun h10 => ?_)
          · skip
            refine lv_iload_n hx hb dX5_add_54 rfl (lv_at hl 0 rfl) ?_
            refine vp_callSi (W.runS (As := [.int x]) (rest := []) ⟨hx, hb, hml, hown, hts⟩ (ctX5_worthOf l x) (va_cwS 1 hts (wA_wsS wm_ml_X5_49 wm_st_X5_worthOf wm_in_X5 wm_cd_X5_worthOf) rfl rfl rfl (by decide +kernel) ⟨Nat.le_of_ble_eq_true rfl, Nat.le_of_ble_eq_true rfl⟩) ⟨fun a U g mk q => q, fun U hU hW => ⟨rfl, trivial⟩⟩ rfl rfl hl.1 rfl (lv_room (Nat.le_of_ble_eq_true rfl)) dX5_add_55 ⟨Nat.zero_le _, Nat.zero_le _⟩) (fun r11 er11 => ?_)
            subst er11
            refine lv_iload_n hx hb dX5_add_58 rfl (lv_at hl 1 rfl) ?_
            refine vp_callSi (W.runS (As := [.int y]) (rest := [.int (pm_wor x)]) ⟨hx, hb, hml, hown, hts⟩ (ctX5_worthOf l y) (va_cwS 1 hts (wA_wsS wm_ml_X5_49 wm_st_X5_worthOf wm_in_X5 wm_cd_X5_worthOf) rfl rfl rfl (by decide +kernel) ⟨Nat.le_of_ble_eq_true rfl, Nat.le_of_ble_eq_true rfl⟩) ⟨fun a U g mk q => q, fun U hU hW => ⟨rfl, trivial⟩⟩ rfl rfl hl.1 rfl (lv_room (Nat.le_of_ble_eq_true rfl)) dX5_add_59 ⟨Nat.zero_le _, Nat.zero_le _⟩) (fun r12 er12 => ?_)
            subst er12
            refine lv_iadd hx hb dX5_add_62 ?_
            refine lv_istore_n (lv' := [(2, .int ((pm_wor x) + (pm_wor y))), (0, .int x), (1, .int y)]) hx hb dX5_add_63 rfl hl (by decide) rfl (fun ls hl => ?_)
            refine lv_iload_n hx hb dX5_add_64 rfl (lv_at hl 0 rfl) ?_
            refine lv_if_ne (tgt := 87) hx hb dX5_add_65 (by decide) (fun h13 => ?_) (fun h13 => ?_)
            · skip
              refine lv_iload_n hx hb dX5_add_87 rfl (lv_at hl 0 rfl) ?_
              refine lv_if_ge (tgt := 104) hx hb dX5_add_88 (by decide) (fun h14 => ?_) (fun h14 => ?_)
              · skip
                have h14b := Int32.not_lt.mpr h14
                refine lv_iconst (v := 4) hx hb dX5_add_104 (by decide) ?_
                refine lv_iload_n hx hb dX5_add_105 rfl (lv_at hl 0 rfl) ?_
                refine lv_imul hx hb dX5_add_106 ?_
                refine vp_callSi (W.runS (As := [.int (4 * ((pm_wor x) + (pm_wor y)))]) (rest := []) ⟨hx, hb, hml, hown, hts⟩ (ctX5_round l (4 * ((pm_wor x) + (pm_wor y)))) (va_cwS 1 hts (wA_wsS wm_ml_X5_52 wm_st_X5_round wm_in_X5 wm_cd_X5_round) rfl rfl rfl (by decide +kernel) ⟨Nat.le_of_ble_eq_true rfl, Nat.le_of_ble_eq_true rfl⟩) ⟨fun a U g mk q => q, fun U hU hW => ⟨rfl, trivial⟩⟩ rfl rfl hl.1 rfl (lv_room (Nat.le_of_ble_eq_true rfl)) dX5_add_107 ⟨Nat.zero_le _, Nat.zero_le _⟩) (fun r15 er15 => ?_)
                subst er15
                exact W.iret (v := pm_rnd (4 * ((pm_wor x) + (pm_wor y)))) hx hb hr (fun t ht hW => ⟨pm_rnd (4 * ((pm_wor x) + (pm_wor y))), rfl, by first | (simp only [pm_add, h2, h4, h6, h8, h10, h13, h14, h14b, ↓reduceIte, not_true_eq_false, not_false_eq_true, and_true, true_and, and_false, false_and, or_true, true_or, or_false, false_or, and_self, or_self]; done) | (simp [pm_add, h2, h4, h6, h8, h10, h13, h14, h14b]; done) | (simp_all [pm_add]; done), ht⟩) (fun q hq => by cases hq) dX5_add_110
              · skip
                have h14b := Int32.not_le.mp h14
                refine lv_bipush (v := 16) hx hb dX5_add_91 (by decide) ?_
                refine lv_bipush (v := (-4)) hx hb dX5_add_93 (by decide) ?_
                refine lv_iload_n hx hb dX5_add_95 rfl (lv_at hl 0 rfl) ?_
                refine lv_imul hx hb dX5_add_96 ?_
                refine vp_callSi (W.runS (As := [.int ((-4) * ((pm_wor x) + (pm_wor y)))]) (rest := [.int 16]) ⟨hx, hb, hml, hown, hts⟩ (ctX5_round l ((-4) * ((pm_wor x) + (pm_wor y)))) (va_cwS 1 hts (wA_wsS wm_ml_X5_52 wm_st_X5_round wm_in_X5 wm_cd_X5_round) rfl rfl rfl (by decide +kernel) ⟨Nat.le_of_ble_eq_true rfl, Nat.le_of_ble_eq_true rfl⟩) ⟨fun a U g mk q => q, fun U hU hW => ⟨rfl, trivial⟩⟩ rfl rfl hl.1 rfl (lv_room (Nat.le_of_ble_eq_true rfl)) dX5_add_97 ⟨Nat.zero_le _, Nat.zero_le _⟩) (fun r16 er16 => ?_)
                subst er16
                refine lv_iadd hx hb dX5_add_100 ?_
                refine lv_goto (tgt := 110) hx hb dX5_add_101 (by decide) ?_
                exact W.iret (v := 16 + (pm_rnd ((-4) * ((pm_wor x) + (pm_wor y))))) hx hb hr (fun t ht hW => ⟨16 + (pm_rnd ((-4) * ((pm_wor x) + (pm_wor y)))), rfl, by first | (simp only [pm_add, h2, h4, h6, h8, h10, h13, h14, h14b, ↓reduceIte, not_true_eq_false, not_false_eq_true, and_true, true_and, and_false, false_and, or_true, true_or, or_false, false_or, and_self, or_self]; done) | (simp [pm_add, h2, h4, h6, h8, h10, h13, h14, h14b]; done) | (simp_all [pm_add]; done), ht⟩) (fun q hq => by cases hq) dX5_add_110
            · skip
              refine lv_iload_n hx hb dX5_add_68 rfl (lv_at hl 1 rfl) ?_
              refine lv_bipush (v := 16) hx hb dX5_add_69 (by decide) ?_
              refine lv_icmp_ne (tgt := 85) hx hb dX5_add_71 (by decide) (fun h17 => ?_) (fun h17 => ?_)
              · skip
                refine lv_iconst (v := 0) hx hb dX5_add_85 (by decide) ?_
                exact W.iret (v := 0) hx hb hr (fun t ht hW => ⟨0, rfl, by first | (simp only [pm_add, h2, h4, h6, h8, h10, h13, h17, ↓reduceIte, not_true_eq_false, not_false_eq_true, and_true, true_and, and_false, false_and, or_true, true_or, or_false, false_or, and_self, or_self]; done) | (simp [pm_add, h2, h4, h6, h8, h10, h13, h17]; done) | (simp_all [pm_add]; done), ht⟩) (fun q hq => by cases hq) dX5_add_86
              · skip
                refine lv_iload_n hx hb dX5_add_74 rfl (lv_at hl 2 rfl) ?_
                refine lv_bipush (v := 16) hx hb dX5_add_75 (by decide) ?_
                refine lv_icmp_ne (tgt := 85) hx hb dX5_add_77 (by decide) (fun h18 => ?_) (fun h18 => ?_)
                · skip
                  refine lv_iconst (v := 0) hx hb dX5_add_85 (by decide) ?_
                  exact W.iret (v := 0) hx hb hr (fun t ht hW => ⟨0, rfl, by first | (simp only [pm_add, h2, h4, h6, h8, h10, h13, h17, h18, ↓reduceIte, not_true_eq_false, not_false_eq_true, and_true, true_and, and_false, false_and, or_true, true_or, or_false, false_or, and_self, or_self]; done) | (simp [pm_add, h2, h4, h6, h8, h10, h13, h17, h18]; done) | (simp_all [pm_add]; done), ht⟩) (fun q hq => by cases hq) dX5_add_86
                · skip
                  refine lv_bipush (v := 16) hx hb dX5_add_80 (by decide) ?_
                  refine lv_goto (tgt := 86) hx hb dX5_add_82 (by decide) ?_
                  exact W.iret (v := 16) hx hb hr (fun t ht hW => ⟨16, rfl, by first | (simp only [pm_add, h2, h4, h6, h8, h10, h13, h17, h18, ↓reduceIte, not_true_eq_false, not_false_eq_true, and_true, true_and, and_false, false_and, or_true, true_or, or_false, false_or, and_self, or_self]; done) | (simp [pm_add, h2, h4, h6, h8, h10, h13, h17, h18]; done) | (simp_all [pm_add]; done), ht⟩) (fun q hq => by cases hq) dX5_add_86
          · skip
            refine lv_iload_n hx hb dX5_add_52 rfl (lv_at hl 1 rfl) ?_
            exact W.iret (v := y) hx hb hr (fun t ht hW => ⟨y, rfl, by first | (simp only [pm_add, h2, h4, h6, h8, h10, ↓reduceIte, not_true_eq_false, not_false_eq_true, and_true, true_and, and_false, false_and, or_true, true_or, or_false, false_or, and_self, or_self]; done) | (simp [pm_add, h2, h4, h6, h8, h10]; done) | (simp_all [pm_add]; done), ht⟩) (fun q hq => by cases hq) dX5_add_53
        · skip
          refine lv_iload_n hx hb dX5_add_43 rfl (lv_at hl 0 rfl) ?_
          exact W.iret (v := x) hx hb hr (fun t ht hW => ⟨x, rfl, by first | (simp only [pm_add, h2, h4, h6, h8, ↓reduceIte, not_true_eq_false, not_false_eq_true, and_true, true_and, and_false, false_and, or_true, true_or, or_false, false_or, and_self, or_self]; done) | (simp [pm_add, h2, h4, h6, h8]; done) | (simp_all [pm_add]; done), ht⟩) (fun q hq => by cases hq) dX5_add_44
      · skip
        refine lv_iload_n hx hb dX5_add_21 rfl (lv_at hl 1 rfl) ?_
        refine vp_callSi (W.runS (As := [.int y]) (rest := []) ⟨hx, hb, hml, hown, hts⟩ (ctX5_infinite l y) (va_cwS 1 hts (wA_wsS wm_ml_X5_38 wm_st_X5_infinite wm_in_X5 wm_cd_X5_infinite) rfl rfl rfl (by decide +kernel) ⟨Nat.le_of_ble_eq_true rfl, Nat.le_of_ble_eq_true rfl⟩) ⟨fun a U g mk q => q, fun U hU hW => ⟨rfl, trivial⟩⟩ rfl rfl hl.1 rfl (lv_room (Nat.le_of_ble_eq_true rfl)) dX5_add_22 ⟨Nat.zero_le _, Nat.zero_le _⟩) (fun r19 er19 => ?_)
        subst er19
        refine lv_if_eq (tgt := 36) hx hb dX5_add_25 (by decide) (fun h20 => ?_) (fun h20 => ?_)
        · skip
          refine lv_iload_n hx hb dX5_add_36 rfl (lv_at hl 0 rfl) ?_
          refine vp_callSi (W.runS (As := [.int x]) (rest := []) ⟨hx, hb, hml, hown, hts⟩ (ctX5_infinite l x) (va_cwS 1 hts (wA_wsS wm_ml_X5_38 wm_st_X5_infinite wm_in_X5 wm_cd_X5_infinite) rfl rfl rfl (by decide +kernel) ⟨Nat.le_of_ble_eq_true rfl, Nat.le_of_ble_eq_true rfl⟩) ⟨fun a U g mk q => q, fun U hU hW => ⟨rfl, trivial⟩⟩ rfl rfl hl.1 rfl (lv_room (Nat.le_of_ble_eq_true rfl)) dX5_add_37 ⟨Nat.zero_le _, Nat.zero_le _⟩) (fun r21 er21 => ?_)
          subst er21
          refine lv_if_eq (tgt := 45) hx hb dX5_add_40 (by decide) (fun h22 => ?_) (fun h22 => ?_)
          · skip
            refine lv_iload_n hx hb dX5_add_45 rfl (lv_at hl 1 rfl) ?_
            refine vp_callSi (W.runS (As := [.int y]) (rest := []) ⟨hx, hb, hml, hown, hts⟩ (ctX5_infinite l y) (va_cwS 1 hts (wA_wsS wm_ml_X5_38 wm_st_X5_infinite wm_in_X5 wm_cd_X5_infinite) rfl rfl rfl (by decide +kernel) ⟨Nat.le_of_ble_eq_true rfl, Nat.le_of_ble_eq_true rfl⟩) ⟨fun a U g mk q => q, fun U hU hW => ⟨rfl, trivial⟩⟩ rfl rfl hl.1 rfl (lv_room (Nat.le_of_ble_eq_true rfl)) dX5_add_46 ⟨Nat.zero_le _, Nat.zero_le _⟩) (fun r23 er23 => ?_)
            subst er23
            refine lv_if_eq (tgt := 54) hx hb dX5_add_49 (by decide) (fun h24 => ?_) (fun h24 => ?_)
            · skip
              refine lv_iload_n hx hb dX5_add_54 rfl (lv_at hl 0 rfl) ?_
              refine vp_callSi (W.runS (As := [.int x]) (rest := []) ⟨hx, hb, hml, hown, hts⟩ (ctX5_worthOf l x) (va_cwS 1 hts (wA_wsS wm_ml_X5_49 wm_st_X5_worthOf wm_in_X5 wm_cd_X5_worthOf) rfl rfl rfl (by decide +kernel) ⟨Nat.le_of_ble_eq_true rfl, Nat.le_of_ble_eq_true rfl⟩) ⟨fun a U g mk q => q, fun U hU hW => ⟨rfl, trivial⟩⟩ rfl rfl hl.1 rfl (lv_room (Nat.le_of_ble_eq_true rfl)) dX5_add_55 ⟨Nat.zero_le _, Nat.zero_le _⟩) (fun r25 er25 => ?_)
              subst er25
              refine lv_iload_n hx hb dX5_add_58 rfl (lv_at hl 1 rfl) ?_
              refine vp_callSi (W.runS (As := [.int y]) (rest := [.int (pm_wor x)]) ⟨hx, hb, hml, hown, hts⟩ (ctX5_worthOf l y) (va_cwS 1 hts (wA_wsS wm_ml_X5_49 wm_st_X5_worthOf wm_in_X5 wm_cd_X5_worthOf) rfl rfl rfl (by decide +kernel) ⟨Nat.le_of_ble_eq_true rfl, Nat.le_of_ble_eq_true rfl⟩) ⟨fun a U g mk q => q, fun U hU hW => ⟨rfl, trivial⟩⟩ rfl rfl hl.1 rfl (lv_room (Nat.le_of_ble_eq_true rfl)) dX5_add_59 ⟨Nat.zero_le _, Nat.zero_le _⟩) (fun r26 er26 => ?_)
              subst er26
              refine lv_iadd hx hb dX5_add_62 ?_
              refine lv_istore_n (lv' := [(2, .int ((pm_wor x) + (pm_wor y))), (0, .int x), (1, .int y)]) hx hb dX5_add_63 rfl hl (by decide) rfl (fun ls hl => ?_)
              refine lv_iload_n hx hb dX5_add_64 rfl (lv_at hl 0 rfl) ?_
              refine lv_if_ne (tgt := 87) hx hb dX5_add_65 (by decide) (fun h27 => ?_) (fun h27 => ?_)
              · skip
                refine lv_iload_n hx hb dX5_add_87 rfl (lv_at hl 0 rfl) ?_
                refine lv_if_ge (tgt := 104) hx hb dX5_add_88 (by decide) (fun h28 => ?_) (fun h28 => ?_)
                · skip
                  have h28b := Int32.not_lt.mpr h28
                  refine lv_iconst (v := 4) hx hb dX5_add_104 (by decide) ?_
                  refine lv_iload_n hx hb dX5_add_105 rfl (lv_at hl 0 rfl) ?_
                  refine lv_imul hx hb dX5_add_106 ?_
                  refine vp_callSi (W.runS (As := [.int (4 * ((pm_wor x) + (pm_wor y)))]) (rest := []) ⟨hx, hb, hml, hown, hts⟩ (ctX5_round l (4 * ((pm_wor x) + (pm_wor y)))) (va_cwS 1 hts (wA_wsS wm_ml_X5_52 wm_st_X5_round wm_in_X5 wm_cd_X5_round) rfl rfl rfl (by decide +kernel) ⟨Nat.le_of_ble_eq_true rfl, Nat.le_of_ble_eq_true rfl⟩) ⟨fun a U g mk q => q, fun U hU hW => ⟨rfl, trivial⟩⟩ rfl rfl hl.1 rfl (lv_room (Nat.le_of_ble_eq_true rfl)) dX5_add_107 ⟨Nat.zero_le _, Nat.zero_le _⟩) (fun r29 er29 => ?_)
                  subst er29
                  exact W.iret (v := pm_rnd (4 * ((pm_wor x) + (pm_wor y)))) hx hb hr (fun t ht hW => ⟨pm_rnd (4 * ((pm_wor x) + (pm_wor y))), rfl, by first | (simp only [pm_add, h2, h4, h6, h20, h22, h24, h27, h28, h28b, ↓reduceIte, not_true_eq_false, not_false_eq_true, and_true, true_and, and_false, false_and, or_true, true_or, or_false, false_or, and_self, or_self]; done) | (simp [pm_add, h2, h4, h6, h20, h22, h24, h27, h28, h28b]; done) | (simp_all [pm_add]; done), ht⟩) (fun q hq => by cases hq) dX5_add_110
                · skip
                  have h28b := Int32.not_le.mp h28
                  refine lv_bipush (v := 16) hx hb dX5_add_91 (by decide) ?_
                  refine lv_bipush (v := (-4)) hx hb dX5_add_93 (by decide) ?_
                  refine lv_iload_n hx hb dX5_add_95 rfl (lv_at hl 0 rfl) ?_
                  refine lv_imul hx hb dX5_add_96 ?_
                  refine vp_callSi (W.runS (As := [.int ((-4) * ((pm_wor x) + (pm_wor y)))]) (rest := [.int 16]) ⟨hx, hb, hml, hown, hts⟩ (ctX5_round l ((-4) * ((pm_wor x) + (pm_wor y)))) (va_cwS 1 hts (wA_wsS wm_ml_X5_52 wm_st_X5_round wm_in_X5 wm_cd_X5_round) rfl rfl rfl (by decide +kernel) ⟨Nat.le_of_ble_eq_true rfl, Nat.le_of_ble_eq_true rfl⟩) ⟨fun a U g mk q => q, fun U hU hW => ⟨rfl, trivial⟩⟩ rfl rfl hl.1 rfl (lv_room (Nat.le_of_ble_eq_true rfl)) dX5_add_97 ⟨Nat.zero_le _, Nat.zero_le _⟩) (fun r30 er30 => ?_)
                  subst er30
                  refine lv_iadd hx hb dX5_add_100 ?_
                  refine lv_goto (tgt := 110) hx hb dX5_add_101 (by decide) ?_
                  exact W.iret (v := 16 + (pm_rnd ((-4) * ((pm_wor x) + (pm_wor y))))) hx hb hr (fun t ht hW => ⟨16 + (pm_rnd ((-4) * ((pm_wor x) + (pm_wor y)))), rfl, by first | (simp only [pm_add, h2, h4, h6, h20, h22, h24, h27, h28, h28b, ↓reduceIte, not_true_eq_false, not_false_eq_true, and_true, true_and, and_false, false_and, or_true, true_or, or_false, false_or, and_self, or_self]; done) | (simp [pm_add, h2, h4, h6, h20, h22, h24, h27, h28, h28b]; done) | (simp_all [pm_add]; done), ht⟩) (fun q hq => by cases hq) dX5_add_110
              · skip
                refine lv_iload_n hx hb dX5_add_68 rfl (lv_at hl 1 rfl) ?_
                refine lv_bipush (v := 16) hx hb dX5_add_69 (by decide) ?_
                refine lv_icmp_ne (tgt := 85) hx hb dX5_add_71 (by decide) (fun h31 => ?_) (fun h31 => ?_)
                · skip
                  refine lv_iconst (v := 0) hx hb dX5_add_85 (by decide) ?_
                  exact W.iret (v := 0) hx hb hr (fun t ht hW => ⟨0, rfl, by first | (simp only [pm_add, h2, h4, h6, h20, h22, h24, h27, h31, ↓reduceIte, not_true_eq_false, not_false_eq_true, and_true, true_and, and_false, false_and, or_true, true_or, or_false, false_or, and_self, or_self]; done) | (simp [pm_add, h2, h4, h6, h20, h22, h24, h27, h31]; done) | (simp_all [pm_add]; done), ht⟩) (fun q hq => by cases hq) dX5_add_86
                · skip
                  refine lv_iload_n hx hb dX5_add_74 rfl (lv_at hl 2 rfl) ?_
                  refine lv_bipush (v := 16) hx hb dX5_add_75 (by decide) ?_
                  refine lv_icmp_ne (tgt := 85) hx hb dX5_add_77 (by decide) (fun h32 => ?_) (fun h32 => ?_)
                  · skip
                    refine lv_iconst (v := 0) hx hb dX5_add_85 (by decide) ?_
                    exact W.iret (v := 0) hx hb hr (fun t ht hW => ⟨0, rfl, by first | (simp only [pm_add, h2, h4, h6, h20, h22, h24, h27, h31, h32, ↓reduceIte, not_true_eq_false, not_false_eq_true, and_true, true_and, and_false, false_and, or_true, true_or, or_false, false_or, and_self, or_self]; done) | (simp [pm_add, h2, h4, h6, h20, h22, h24, h27, h31, h32]; done) | (simp_all [pm_add]; done), ht⟩) (fun q hq => by cases hq) dX5_add_86
                  · skip
                    refine lv_bipush (v := 16) hx hb dX5_add_80 (by decide) ?_
                    refine lv_goto (tgt := 86) hx hb dX5_add_82 (by decide) ?_
                    exact W.iret (v := 16) hx hb hr (fun t ht hW => ⟨16, rfl, by first | (simp only [pm_add, h2, h4, h6, h20, h22, h24, h27, h31, h32, ↓reduceIte, not_true_eq_false, not_false_eq_true, and_true, true_and, and_false, false_and, or_true, true_or, or_false, false_or, and_self, or_self]; done) | (simp [pm_add, h2, h4, h6, h20, h22, h24, h27, h31, h32]; done) | (simp_all [pm_add]; done), ht⟩) (fun q hq => by cases hq) dX5_add_86
            · skip
              refine lv_iload_n hx hb dX5_add_52 rfl (lv_at hl 1 rfl) ?_
              exact W.iret (v := y) hx hb hr (fun t ht hW => ⟨y, rfl, by first | (simp only [pm_add, h2, h4, h6, h20, h22, h24, ↓reduceIte, not_true_eq_false, not_false_eq_true, and_true, true_and, and_false, false_and, or_true, true_or, or_false, false_or, and_self, or_self]; done) | (simp [pm_add, h2, h4, h6, h20, h22, h24]; done) | (simp_all [pm_add]; done), ht⟩) (fun q hq => by cases hq) dX5_add_53
          · skip
            refine lv_iload_n hx hb dX5_add_43 rfl (lv_at hl 0 rfl) ?_
            exact W.iret (v := x) hx hb hr (fun t ht hW => ⟨x, rfl, by first | (simp only [pm_add, h2, h4, h6, h20, h22, ↓reduceIte, not_true_eq_false, not_false_eq_true, and_true, true_and, and_false, false_and, or_true, true_or, or_false, false_or, and_self, or_self]; done) | (simp [pm_add, h2, h4, h6, h20, h22]; done) | (simp_all [pm_add]; done), ht⟩) (fun q hq => by cases hq) dX5_add_44
        · skip
          refine lv_iload_n hx hb dX5_add_28 rfl (lv_at hl 0 rfl) ?_
          refine lv_iload_n hx hb dX5_add_29 rfl (lv_at hl 1 rfl) ?_
          refine lv_icmp_eq (tgt := 36) hx hb dX5_add_30 (by decide) (fun h33 => ?_) (fun h33 => ?_)
          · skip
            refine lv_iload_n hx hb dX5_add_36 rfl (lv_at hl 0 rfl) ?_
            refine vp_callSi (W.runS (As := [.int x]) (rest := []) ⟨hx, hb, hml, hown, hts⟩ (ctX5_infinite l x) (va_cwS 1 hts (wA_wsS wm_ml_X5_38 wm_st_X5_infinite wm_in_X5 wm_cd_X5_infinite) rfl rfl rfl (by decide +kernel) ⟨Nat.le_of_ble_eq_true rfl, Nat.le_of_ble_eq_true rfl⟩) ⟨fun a U g mk q => q, fun U hU hW => ⟨rfl, trivial⟩⟩ rfl rfl hl.1 rfl (lv_room (Nat.le_of_ble_eq_true rfl)) dX5_add_37 ⟨Nat.zero_le _, Nat.zero_le _⟩) (fun r34 er34 => ?_)
            subst er34
            refine lv_if_eq (tgt := 45) hx hb dX5_add_40 (by decide) (fun h35 => ?_) (fun h35 => ?_)
            · skip
              refine lv_iload_n hx hb dX5_add_45 rfl (lv_at hl 1 rfl) ?_
              refine vp_callSi (W.runS (As := [.int y]) (rest := []) ⟨hx, hb, hml, hown, hts⟩ (ctX5_infinite l y) (va_cwS 1 hts (wA_wsS wm_ml_X5_38 wm_st_X5_infinite wm_in_X5 wm_cd_X5_infinite) rfl rfl rfl (by decide +kernel) ⟨Nat.le_of_ble_eq_true rfl, Nat.le_of_ble_eq_true rfl⟩) ⟨fun a U g mk q => q, fun U hU hW => ⟨rfl, trivial⟩⟩ rfl rfl hl.1 rfl (lv_room (Nat.le_of_ble_eq_true rfl)) dX5_add_46 ⟨Nat.zero_le _, Nat.zero_le _⟩) (fun r36 er36 => ?_)
              subst er36
              refine lv_if_eq (tgt := 54) hx hb dX5_add_49 (by decide) (fun h37 => ?_) (fun h37 => ?_)
              · skip
                refine lv_iload_n hx hb dX5_add_54 rfl (lv_at hl 0 rfl) ?_
                refine vp_callSi (W.runS (As := [.int x]) (rest := []) ⟨hx, hb, hml, hown, hts⟩ (ctX5_worthOf l x) (va_cwS 1 hts (wA_wsS wm_ml_X5_49 wm_st_X5_worthOf wm_in_X5 wm_cd_X5_worthOf) rfl rfl rfl (by decide +kernel) ⟨Nat.le_of_ble_eq_true rfl, Nat.le_of_ble_eq_true rfl⟩) ⟨fun a U g mk q => q, fun U hU hW => ⟨rfl, trivial⟩⟩ rfl rfl hl.1 rfl (lv_room (Nat.le_of_ble_eq_true rfl)) dX5_add_55 ⟨Nat.zero_le _, Nat.zero_le _⟩) (fun r38 er38 => ?_)
                subst er38
                refine lv_iload_n hx hb dX5_add_58 rfl (lv_at hl 1 rfl) ?_
                refine vp_callSi (W.runS (As := [.int y]) (rest := [.int (pm_wor x)]) ⟨hx, hb, hml, hown, hts⟩ (ctX5_worthOf l y) (va_cwS 1 hts (wA_wsS wm_ml_X5_49 wm_st_X5_worthOf wm_in_X5 wm_cd_X5_worthOf) rfl rfl rfl (by decide +kernel) ⟨Nat.le_of_ble_eq_true rfl, Nat.le_of_ble_eq_true rfl⟩) ⟨fun a U g mk q => q, fun U hU hW => ⟨rfl, trivial⟩⟩ rfl rfl hl.1 rfl (lv_room (Nat.le_of_ble_eq_true rfl)) dX5_add_59 ⟨Nat.zero_le _, Nat.zero_le _⟩) (fun r39 er39 => ?_)
                subst er39
                refine lv_iadd hx hb dX5_add_62 ?_
                refine lv_istore_n (lv' := [(2, .int ((pm_wor x) + (pm_wor y))), (0, .int x), (1, .int y)]) hx hb dX5_add_63 rfl hl (by decide) rfl (fun ls hl => ?_)
                refine lv_iload_n hx hb dX5_add_64 rfl (lv_at hl 0 rfl) ?_
                refine lv_if_ne (tgt := 87) hx hb dX5_add_65 (by decide) (fun h40 => ?_) (fun h40 => ?_)
                · skip
                  refine lv_iload_n hx hb dX5_add_87 rfl (lv_at hl 0 rfl) ?_
                  refine lv_if_ge (tgt := 104) hx hb dX5_add_88 (by decide) (fun h41 => ?_) (fun h41 => ?_)
                  · skip
                    have h41b := Int32.not_lt.mpr h41
                    refine lv_iconst (v := 4) hx hb dX5_add_104 (by decide) ?_
                    refine lv_iload_n hx hb dX5_add_105 rfl (lv_at hl 0 rfl) ?_
                    refine lv_imul hx hb dX5_add_106 ?_
                    refine vp_callSi (W.runS (As := [.int (4 * ((pm_wor x) + (pm_wor y)))]) (rest := []) ⟨hx, hb, hml, hown, hts⟩ (ctX5_round l (4 * ((pm_wor x) + (pm_wor y)))) (va_cwS 1 hts (wA_wsS wm_ml_X5_52 wm_st_X5_round wm_in_X5 wm_cd_X5_round) rfl rfl rfl (by decide +kernel) ⟨Nat.le_of_ble_eq_true rfl, Nat.le_of_ble_eq_true rfl⟩) ⟨fun a U g mk q => q, fun U hU hW => ⟨rfl, trivial⟩⟩ rfl rfl hl.1 rfl (lv_room (Nat.le_of_ble_eq_true rfl)) dX5_add_107 ⟨Nat.zero_le _, Nat.zero_le _⟩) (fun r42 er42 => ?_)
                    subst er42
                    exact W.iret (v := pm_rnd (4 * ((pm_wor x) + (pm_wor y)))) hx hb hr (fun t ht hW => ⟨pm_rnd (4 * ((pm_wor x) + (pm_wor y))), rfl, by first | (simp only [pm_add, h2, h4, h6, h20, h33, h35, h37, h40, h41, h41b, ↓reduceIte, not_true_eq_false, not_false_eq_true, and_true, true_and, and_false, false_and, or_true, true_or, or_false, false_or, and_self, or_self]; done) | (simp [pm_add, h2, h4, h6, h20, h33, h35, h37, h40, h41, h41b]; done) | (simp_all [pm_add]; done), ht⟩) (fun q hq => by cases hq) dX5_add_110
                  · skip
                    have h41b := Int32.not_le.mp h41
                    refine lv_bipush (v := 16) hx hb dX5_add_91 (by decide) ?_
                    refine lv_bipush (v := (-4)) hx hb dX5_add_93 (by decide) ?_
                    refine lv_iload_n hx hb dX5_add_95 rfl (lv_at hl 0 rfl) ?_
                    refine lv_imul hx hb dX5_add_96 ?_
                    refine vp_callSi (W.runS (As := [.int ((-4) * ((pm_wor x) + (pm_wor y)))]) (rest := [.int 16]) ⟨hx, hb, hml, hown, hts⟩ (ctX5_round l ((-4) * ((pm_wor x) + (pm_wor y)))) (va_cwS 1 hts (wA_wsS wm_ml_X5_52 wm_st_X5_round wm_in_X5 wm_cd_X5_round) rfl rfl rfl (by decide +kernel) ⟨Nat.le_of_ble_eq_true rfl, Nat.le_of_ble_eq_true rfl⟩) ⟨fun a U g mk q => q, fun U hU hW => ⟨rfl, trivial⟩⟩ rfl rfl hl.1 rfl (lv_room (Nat.le_of_ble_eq_true rfl)) dX5_add_97 ⟨Nat.zero_le _, Nat.zero_le _⟩) (fun r43 er43 => ?_)
                    subst er43
                    refine lv_iadd hx hb dX5_add_100 ?_
                    refine lv_goto (tgt := 110) hx hb dX5_add_101 (by decide) ?_
                    exact W.iret (v := 16 + (pm_rnd ((-4) * ((pm_wor x) + (pm_wor y))))) hx hb hr (fun t ht hW => ⟨16 + (pm_rnd ((-4) * ((pm_wor x) + (pm_wor y)))), rfl, by first | (simp only [pm_add, h2, h4, h6, h20, h33, h35, h37, h40, h41, h41b, ↓reduceIte, not_true_eq_false, not_false_eq_true, and_true, true_and, and_false, false_and, or_true, true_or, or_false, false_or, and_self, or_self]; done) | (simp [pm_add, h2, h4, h6, h20, h33, h35, h37, h40, h41, h41b]; done) | (simp_all [pm_add]; done), ht⟩) (fun q hq => by cases hq) dX5_add_110
                · skip
                  refine lv_iload_n hx hb dX5_add_68 rfl (lv_at hl 1 rfl) ?_
                  refine lv_bipush (v := 16) hx hb dX5_add_69 (by decide) ?_
                  refine lv_icmp_ne (tgt := 85) hx hb dX5_add_71 (by decide) (fun h44 => ?_) (fun h44 => ?_)
                  · skip
                    refine lv_iconst (v := 0) hx hb dX5_add_85 (by decide) ?_
                    exact W.iret (v := 0) hx hb hr (fun t ht hW => ⟨0, rfl, by first | (simp only [pm_add, h2, h4, h6, h20, h33, h35, h37, h40, h44, ↓reduceIte, not_true_eq_false, not_false_eq_true, and_true, true_and, and_false, false_and, or_true, true_or, or_false, false_or, and_self, or_self]; done) | (simp [pm_add, h2, h4, h6, h20, h33, h35, h37, h40, h44]; done) | (simp_all [pm_add]; done), ht⟩) (fun q hq => by cases hq) dX5_add_86
                  · skip
                    refine lv_iload_n hx hb dX5_add_74 rfl (lv_at hl 2 rfl) ?_
                    refine lv_bipush (v := 16) hx hb dX5_add_75 (by decide) ?_
                    refine lv_icmp_ne (tgt := 85) hx hb dX5_add_77 (by decide) (fun h45 => ?_) (fun h45 => ?_)
                    · skip
                      refine lv_iconst (v := 0) hx hb dX5_add_85 (by decide) ?_
                      exact W.iret (v := 0) hx hb hr (fun t ht hW => ⟨0, rfl, by first | (simp only [pm_add, h2, h4, h6, h20, h33, h35, h37, h40, h44, h45, ↓reduceIte, not_true_eq_false, not_false_eq_true, and_true, true_and, and_false, false_and, or_true, true_or, or_false, false_or, and_self, or_self]; done) | (simp [pm_add, h2, h4, h6, h20, h33, h35, h37, h40, h44, h45]; done) | (simp_all [pm_add]; done), ht⟩) (fun q hq => by cases hq) dX5_add_86
                    · skip
                      refine lv_bipush (v := 16) hx hb dX5_add_80 (by decide) ?_
                      refine lv_goto (tgt := 86) hx hb dX5_add_82 (by decide) ?_
                      exact W.iret (v := 16) hx hb hr (fun t ht hW => ⟨16, rfl, by first | (simp only [pm_add, h2, h4, h6, h20, h33, h35, h37, h40, h44, h45, ↓reduceIte, not_true_eq_false, not_false_eq_true, and_true, true_and, and_false, false_and, or_true, true_or, or_false, false_or, and_self, or_self]; done) | (simp [pm_add, h2, h4, h6, h20, h33, h35, h37, h40, h44, h45]; done) | (simp_all [pm_add]; done), ht⟩) (fun q hq => by cases hq) dX5_add_86
              · skip
                refine lv_iload_n hx hb dX5_add_52 rfl (lv_at hl 1 rfl) ?_
                exact W.iret (v := y) hx hb hr (fun t ht hW => ⟨y, rfl, by first | (simp only [pm_add, h2, h4, h6, h20, h33, h35, h37, ↓reduceIte, not_true_eq_false, not_false_eq_true, and_true, true_and, and_false, false_and, or_true, true_or, or_false, false_or, and_self, or_self]; done) | (simp [pm_add, h2, h4, h6, h20, h33, h35, h37]; done) | (simp_all [pm_add]; done), ht⟩) (fun q hq => by cases hq) dX5_add_53
            · skip
              refine lv_iload_n hx hb dX5_add_43 rfl (lv_at hl 0 rfl) ?_
              exact W.iret (v := x) hx hb hr (fun t ht hW => ⟨x, rfl, by first | (simp only [pm_add, h2, h4, h6, h20, h33, h35, ↓reduceIte, not_true_eq_false, not_false_eq_true, and_true, true_and, and_false, false_and, or_true, true_or, or_false, false_or, and_self, or_self]; done) | (simp [pm_add, h2, h4, h6, h20, h33, h35]; done) | (simp_all [pm_add]; done), ht⟩) (fun q hq => by cases hq) dX5_add_44
          · skip
            refine lv_bipush (v := 13) hx hb dX5_add_33 (by decide) ?_
            exact W.iret (v := 13) hx hb hr (fun t ht hW => ⟨13, rfl, by first | (simp only [pm_add, h2, h4, h6, h20, h33, ↓reduceIte, not_true_eq_false, not_false_eq_true, and_true, true_and, and_false, false_and, or_true, true_or, or_false, false_or, and_self, or_self]; done) | (simp [pm_add, h2, h4, h6, h20, h33]; done) | (simp_all [pm_add]; done), ht⟩) (fun q hq => by cases hq) dX5_add_35
set_option maxHeartbeats 4000000 in
set_option maxRecDepth 100000 in
theorem ctX5_multiply (l : Launch) (x y : Int32) : Met l yX5_multiply wsX5_multiply ({ frames := 2, cells := 0, slots := 0, locals := 46 }) (va_Pc [.int x, .int y] (fun _ => True)) (vp_Si (fun r => r = pm_mul x y)) 0 0 (fun _ => False) := by
  refine Met.ofW (cc := cX5_multiply) (maxL := 3) (ret := (some .int)) (by decide) rfl ?_
  intro p e s m args below meth c s₁ B hml hv
  obtain ⟨rfl, -⟩ := hv
  have hx := B.exec
  have hb := B.bytes
  have hr := B.returns
  have hts := atoms_spec (ws := wsX5_multiply) B.pre
  have hown : s.vm.findClass RX5 = some m.cls := findClass_of_methodNamed B.named
  have hlocks := B.notSynchronized
  have hl := lv_entry ([.int x, .int y]) (n := 3) (Nat.le_of_ble_eq_true rfl)
  rw [lg_entry_eq]
  generalize (lg_sl ([.int x, .int y]) ++ List.replicate (3 - (lg_sl ([.int x, .int y])).length) Slot.unset).toArray = ls at hl ⊢
  have hl : lv_has ls 3 [(0, .int x), (1, .int y)] := hl
  refine lv_iload_n hx hb dX5_multiply_0 rfl (lv_at hl 0 rfl) ?_
  refine vp_callSi (W.runS (As := [.int x]) (rest := []) ⟨hx, hb, hml, hown, hts⟩ (ctX5_nan l x) (va_cwS 1 hts (wA_wsS wm_ml_X5_46 wm_st_X5_nan wm_in_X5 wm_cd_X5_nan) rfl rfl rfl (by decide +kernel) ⟨Nat.le_of_ble_eq_true rfl, Nat.le_of_ble_eq_true rfl⟩) ⟨fun a U g mk q => q, fun U hU hW => ⟨rfl, trivial⟩⟩ rfl rfl hl.1 rfl (lv_room (Nat.le_of_ble_eq_true rfl)) dX5_multiply_1 ⟨Nat.zero_le _, Nat.zero_le _⟩) (fun r1 er1 => ?_)
  subst er1
  refine lv_if_ne (tgt := 42) hx hb dX5_multiply_4 (by decide) (fun h2 => ?_) (fun h2 => ?_)
  · skip
    refine lv_bipush (v := 13) hx hb dX5_multiply_42 (by decide) ?_
    exact W.iret (v := 13) hx hb hr (fun t ht hW => ⟨13, rfl, by first | (simp only [pm_mul, h2, ↓reduceIte, not_true_eq_false, not_false_eq_true, and_true, true_and, and_false, false_and, or_true, true_or, or_false, false_or, and_self, or_self]; done) | (simp [pm_mul, h2]; done) | (simp_all [pm_mul]; done), ht⟩) (fun q hq => by cases hq) dX5_multiply_44
  · skip
    refine lv_iload_n hx hb dX5_multiply_7 rfl (lv_at hl 1 rfl) ?_
    refine vp_callSi (W.runS (As := [.int y]) (rest := []) ⟨hx, hb, hml, hown, hts⟩ (ctX5_nan l y) (va_cwS 1 hts (wA_wsS wm_ml_X5_46 wm_st_X5_nan wm_in_X5 wm_cd_X5_nan) rfl rfl rfl (by decide +kernel) ⟨Nat.le_of_ble_eq_true rfl, Nat.le_of_ble_eq_true rfl⟩) ⟨fun a U g mk q => q, fun U hU hW => ⟨rfl, trivial⟩⟩ rfl rfl hl.1 rfl (lv_room (Nat.le_of_ble_eq_true rfl)) dX5_multiply_8 ⟨Nat.zero_le _, Nat.zero_le _⟩) (fun r3 er3 => ?_)
    subst er3
    refine lv_if_ne (tgt := 42) hx hb dX5_multiply_11 (by decide) (fun h4 => ?_) (fun h4 => ?_)
    · skip
      refine lv_bipush (v := 13) hx hb dX5_multiply_42 (by decide) ?_
      exact W.iret (v := 13) hx hb hr (fun t ht hW => ⟨13, rfl, by first | (simp only [pm_mul, h2, h4, ↓reduceIte, not_true_eq_false, not_false_eq_true, and_true, true_and, and_false, false_and, or_true, true_or, or_false, false_or, and_self, or_self]; done) | (simp [pm_mul, h2, h4]; done) | (simp_all [pm_mul]; done), ht⟩) (fun q hq => by cases hq) dX5_multiply_44
    · skip
      refine lv_iload_n hx hb dX5_multiply_14 rfl (lv_at hl 0 rfl) ?_
      refine vp_callSi (W.runS (As := [.int x]) (rest := []) ⟨hx, hb, hml, hown, hts⟩ (ctX5_infinite l x) (va_cwS 1 hts (wA_wsS wm_ml_X5_38 wm_st_X5_infinite wm_in_X5 wm_cd_X5_infinite) rfl rfl rfl (by decide +kernel) ⟨Nat.le_of_ble_eq_true rfl, Nat.le_of_ble_eq_true rfl⟩) ⟨fun a U g mk q => q, fun U hU hW => ⟨rfl, trivial⟩⟩ rfl rfl hl.1 rfl (lv_room (Nat.le_of_ble_eq_true rfl)) dX5_multiply_15 ⟨Nat.zero_le _, Nat.zero_le _⟩) (fun r5 er5 => ?_)
      subst er5
      refine lv_if_eq (tgt := 28) hx hb dX5_multiply_18 (by decide) (fun h6 => ?_) (fun h6 => ?_)
      · skip
        refine lv_iload_n hx hb dX5_multiply_28 rfl (lv_at hl 1 rfl) ?_
        refine vp_callSi (W.runS (As := [.int y]) (rest := []) ⟨hx, hb, hml, hown, hts⟩ (ctX5_infinite l y) (va_cwS 1 hts (wA_wsS wm_ml_X5_38 wm_st_X5_infinite wm_in_X5 wm_cd_X5_infinite) rfl rfl rfl (by decide +kernel) ⟨Nat.le_of_ble_eq_true rfl, Nat.le_of_ble_eq_true rfl⟩) ⟨fun a U g mk q => q, fun U hU hW => ⟨rfl, trivial⟩⟩ rfl rfl hl.1 rfl (lv_room (Nat.le_of_ble_eq_true rfl)) dX5_multiply_29 ⟨Nat.zero_le _, Nat.zero_le _⟩) (fun r7 er7 => ?_)
        subst er7
        refine lv_if_eq (tgt := 45) hx hb dX5_multiply_32 (by decide) (fun h8 => ?_) (fun h8 => ?_)
        · skip
          refine lv_iload_n hx hb dX5_multiply_45 rfl (lv_at hl 0 rfl) ?_
          refine lv_iload_n hx hb dX5_multiply_46 rfl (lv_at hl 1 rfl) ?_
          refine lv_ixor hx hb dX5_multiply_47 ?_
          refine lv_bipush (v := 16) hx hb dX5_multiply_48 (by decide) ?_
          refine lv_iand hx hb dX5_multiply_50 ?_
          refine lv_istore_n (lv' := [(2, .int ((x ^^^ y) &&& 16)), (0, .int x), (1, .int y)]) hx hb dX5_multiply_51 rfl hl (by decide) rfl (fun ls hl => ?_)
          refine lv_iload_n hx hb dX5_multiply_52 rfl (lv_at hl 1 rfl) ?_
          refine vp_callSi (W.runS (As := [.int x]) (rest := []) ⟨hx, hb, hml, hown, hts⟩ (ctX5_infinite l x) (va_cwS 1 hts (wA_wsS wm_ml_X5_38 wm_st_X5_infinite wm_in_X5 wm_cd_X5_infinite) rfl rfl rfl (by decide +kernel) ⟨Nat.le_of_ble_eq_true rfl, Nat.le_of_ble_eq_true rfl⟩) ⟨fun a U g mk q => q, fun U hU hW => ⟨rfl, trivial⟩⟩ rfl rfl hl.1 rfl (lv_room (Nat.le_of_ble_eq_true rfl)) dX5_multiply_53 ⟨Nat.zero_le _, Nat.zero_le _⟩) (fun r9 er9 => ?_)
          subst er9
          refine lv_if_ne (tgt := 66) hx hb dX5_multiply_56 (by decide) (fun h10 => ?_) (fun h10 => ?_)
          · skip
            refine lv_iload_n hx hb dX5_multiply_66 rfl (lv_at hl 0 rfl) ?_
            refine lv_bipush (v := 12) hx hb dX5_multiply_67 (by decide) ?_
            refine lv_iadd hx hb dX5_multiply_69 ?_
            exact W.iret (v := ((x ^^^ y) &&& 16) + 12) hx hb hr (fun t ht hW => ⟨((x ^^^ y) &&& 16) + 12, rfl, by first | (simp only [pm_mul, h2, h4, h6, h8, h10, ↓reduceIte, not_true_eq_false, not_false_eq_true, and_true, true_and, and_false, false_and, or_true, true_or, or_false, false_or, and_self, or_self]; done) | (simp [pm_mul, h2, h4, h6, h8, h10]; done) | (simp_all [pm_mul]; done), ht⟩) (fun q hq => by cases hq) dX5_multiply_70
          · skip
            refine lv_iload_n hx hb dX5_multiply_59 rfl (lv_at hl 2 rfl) ?_
            refine vp_callSi (W.runS (As := [.int y]) (rest := []) ⟨hx, hb, hml, hown, hts⟩ (ctX5_infinite l y) (va_cwS 1 hts (wA_wsS wm_ml_X5_38 wm_st_X5_infinite wm_in_X5 wm_cd_X5_infinite) rfl rfl rfl (by decide +kernel) ⟨Nat.le_of_ble_eq_true rfl, Nat.le_of_ble_eq_true rfl⟩) ⟨fun a U g mk q => q, fun U hU hW => ⟨rfl, trivial⟩⟩ rfl rfl hl.1 rfl (lv_room (Nat.le_of_ble_eq_true rfl)) dX5_multiply_60 ⟨Nat.zero_le _, Nat.zero_le _⟩) (fun r11 er11 => ?_)
            subst er11
            refine lv_if_eq (tgt := 71) hx hb dX5_multiply_63 (by decide) (fun h12 => ?_) (fun h12 => ?_)
            · skip
              refine lv_iload_n hx hb dX5_multiply_71 rfl (lv_at hl 0 rfl) ?_
              refine lv_iload_n hx hb dX5_multiply_72 rfl (lv_at hl 1 rfl) ?_
              refine lv_bipush (v := 15) hx hb dX5_multiply_73 (by decide) ?_
              refine lv_iand hx hb dX5_multiply_75 ?_
              refine vp_callSi (W.runS (As := [.int (x &&& 15)]) (rest := [.int ((x ^^^ y) &&& 16)]) ⟨hx, hb, hml, hown, hts⟩ (ctX5_quarters l (x &&& 15)) (va_cwS 1 hts (wA_wsS wm_ml_X5_42 wm_st_X5_quarters wm_in_X5 wm_cd_X5_quarters) rfl rfl rfl (by decide +kernel) ⟨Nat.le_of_ble_eq_true rfl, Nat.le_of_ble_eq_true rfl⟩) ⟨fun a U g mk q => q, fun U hU hW => ⟨rfl, trivial⟩⟩ rfl rfl hl.1 rfl (lv_room (Nat.le_of_ble_eq_true rfl)) dX5_multiply_76 ⟨Nat.zero_le _, Nat.zero_le _⟩) (fun r13 er13 => ?_)
              subst er13
              refine lv_iload_n hx hb dX5_multiply_79 rfl (lv_at hl 2 rfl) ?_
              refine lv_bipush (v := 15) hx hb dX5_multiply_80 (by decide) ?_
              refine lv_iand hx hb dX5_multiply_82 ?_
              refine vp_callSi (W.runS (As := [.int (y &&& 15)]) (rest := [.int (pm_q (x &&& 15)), .int ((x ^^^ y) &&& 16)]) ⟨hx, hb, hml, hown, hts⟩ (ctX5_quarters l (y &&& 15)) (va_cwS 1 hts (wA_wsS wm_ml_X5_42 wm_st_X5_quarters wm_in_X5 wm_cd_X5_quarters) rfl rfl rfl (by decide +kernel) ⟨Nat.le_of_ble_eq_true rfl, Nat.le_of_ble_eq_true rfl⟩) ⟨fun a U g mk q => q, fun U hU hW => ⟨rfl, trivial⟩⟩ rfl rfl hl.1 rfl (lv_room (Nat.le_of_ble_eq_true rfl)) dX5_multiply_83 ⟨Nat.zero_le _, Nat.zero_le _⟩) (fun r14 er14 => ?_)
              subst er14
              refine lv_imul hx hb dX5_multiply_86 ?_
              refine vp_callSi (W.runS (As := [.int ((pm_q (x &&& 15)) * (pm_q (y &&& 15)))]) (rest := [.int ((x ^^^ y) &&& 16)]) ⟨hx, hb, hml, hown, hts⟩ (ctX5_round l ((pm_q (x &&& 15)) * (pm_q (y &&& 15)))) (va_cwS 1 hts (wA_wsS wm_ml_X5_52 wm_st_X5_round wm_in_X5 wm_cd_X5_round) rfl rfl rfl (by decide +kernel) ⟨Nat.le_of_ble_eq_true rfl, Nat.le_of_ble_eq_true rfl⟩) ⟨fun a U g mk q => q, fun U hU hW => ⟨rfl, trivial⟩⟩ rfl rfl hl.1 rfl (lv_room (Nat.le_of_ble_eq_true rfl)) dX5_multiply_87 ⟨Nat.zero_le _, Nat.zero_le _⟩) (fun r15 er15 => ?_)
              subst er15
              refine lv_iadd hx hb dX5_multiply_90 ?_
              exact W.iret (v := ((x ^^^ y) &&& 16) + (pm_rnd ((pm_q (x &&& 15)) * (pm_q (y &&& 15))))) hx hb hr (fun t ht hW => ⟨((x ^^^ y) &&& 16) + (pm_rnd ((pm_q (x &&& 15)) * (pm_q (y &&& 15)))), rfl, by first | (simp only [pm_mul, h2, h4, h6, h8, h10, h12, ↓reduceIte, not_true_eq_false, not_false_eq_true, and_true, true_and, and_false, false_and, or_true, true_or, or_false, false_or, and_self, or_self]; done) | (simp [pm_mul, h2, h4, h6, h8, h10, h12]; done) | (simp_all [pm_mul]; done), ht⟩) (fun q hq => by cases hq) dX5_multiply_91
            · skip
              refine lv_iload_n hx hb dX5_multiply_66 rfl (lv_at hl 0 rfl) ?_
              refine lv_bipush (v := 12) hx hb dX5_multiply_67 (by decide) ?_
              refine lv_iadd hx hb dX5_multiply_69 ?_
              exact W.iret (v := ((x ^^^ y) &&& 16) + 12) hx hb hr (fun t ht hW => ⟨((x ^^^ y) &&& 16) + 12, rfl, by first | (simp only [pm_mul, h2, h4, h6, h8, h10, h12, ↓reduceIte, not_true_eq_false, not_false_eq_true, and_true, true_and, and_false, false_and, or_true, true_or, or_false, false_or, and_self, or_self]; done) | (simp [pm_mul, h2, h4, h6, h8, h10, h12]; done) | (simp_all [pm_mul]; done), ht⟩) (fun q hq => by cases hq) dX5_multiply_70
        · skip
          refine lv_iload_n hx hb dX5_multiply_35 rfl (lv_at hl 0 rfl) ?_
          refine vp_callSi (W.runS (As := [.int x]) (rest := []) ⟨hx, hb, hml, hown, hts⟩ (ctX5_zero l x) (va_cwS 1 hts (wA_wsS wm_ml_X5_55 wm_st_X5_zero wm_in_X5 wm_cd_X5_zero) rfl rfl rfl (by decide +kernel) ⟨Nat.le_of_ble_eq_true rfl, Nat.le_of_ble_eq_true rfl⟩) ⟨fun a U g mk q => q, fun U hU hW => ⟨rfl, trivial⟩⟩ rfl rfl hl.1 rfl (lv_room (Nat.le_of_ble_eq_true rfl)) dX5_multiply_36 ⟨Nat.zero_le _, Nat.zero_le _⟩) (fun r16 er16 => ?_)
          subst er16
          refine lv_if_eq (tgt := 45) hx hb dX5_multiply_39 (by decide) (fun h17 => ?_) (fun h17 => ?_)
          · skip
            refine lv_iload_n hx hb dX5_multiply_45 rfl (lv_at hl 0 rfl) ?_
            refine lv_iload_n hx hb dX5_multiply_46 rfl (lv_at hl 1 rfl) ?_
            refine lv_ixor hx hb dX5_multiply_47 ?_
            refine lv_bipush (v := 16) hx hb dX5_multiply_48 (by decide) ?_
            refine lv_iand hx hb dX5_multiply_50 ?_
            refine lv_istore_n (lv' := [(2, .int ((x ^^^ y) &&& 16)), (0, .int x), (1, .int y)]) hx hb dX5_multiply_51 rfl hl (by decide) rfl (fun ls hl => ?_)
            refine lv_iload_n hx hb dX5_multiply_52 rfl (lv_at hl 1 rfl) ?_
            refine vp_callSi (W.runS (As := [.int x]) (rest := []) ⟨hx, hb, hml, hown, hts⟩ (ctX5_infinite l x) (va_cwS 1 hts (wA_wsS wm_ml_X5_38 wm_st_X5_infinite wm_in_X5 wm_cd_X5_infinite) rfl rfl rfl (by decide +kernel) ⟨Nat.le_of_ble_eq_true rfl, Nat.le_of_ble_eq_true rfl⟩) ⟨fun a U g mk q => q, fun U hU hW => ⟨rfl, trivial⟩⟩ rfl rfl hl.1 rfl (lv_room (Nat.le_of_ble_eq_true rfl)) dX5_multiply_53 ⟨Nat.zero_le _, Nat.zero_le _⟩) (fun r18 er18 => ?_)
            subst er18
            refine lv_if_ne (tgt := 66) hx hb dX5_multiply_56 (by decide) (fun h19 => ?_) (fun h19 => ?_)
            · skip
              refine lv_iload_n hx hb dX5_multiply_66 rfl (lv_at hl 0 rfl) ?_
              refine lv_bipush (v := 12) hx hb dX5_multiply_67 (by decide) ?_
              refine lv_iadd hx hb dX5_multiply_69 ?_
              exact W.iret (v := ((x ^^^ y) &&& 16) + 12) hx hb hr (fun t ht hW => ⟨((x ^^^ y) &&& 16) + 12, rfl, by first | (simp only [pm_mul, h2, h4, h6, h8, h17, h19, ↓reduceIte, not_true_eq_false, not_false_eq_true, and_true, true_and, and_false, false_and, or_true, true_or, or_false, false_or, and_self, or_self]; done) | (simp [pm_mul, h2, h4, h6, h8, h17, h19]; done) | (simp_all [pm_mul]; done), ht⟩) (fun q hq => by cases hq) dX5_multiply_70
            · skip
              refine lv_iload_n hx hb dX5_multiply_59 rfl (lv_at hl 2 rfl) ?_
              refine vp_callSi (W.runS (As := [.int y]) (rest := []) ⟨hx, hb, hml, hown, hts⟩ (ctX5_infinite l y) (va_cwS 1 hts (wA_wsS wm_ml_X5_38 wm_st_X5_infinite wm_in_X5 wm_cd_X5_infinite) rfl rfl rfl (by decide +kernel) ⟨Nat.le_of_ble_eq_true rfl, Nat.le_of_ble_eq_true rfl⟩) ⟨fun a U g mk q => q, fun U hU hW => ⟨rfl, trivial⟩⟩ rfl rfl hl.1 rfl (lv_room (Nat.le_of_ble_eq_true rfl)) dX5_multiply_60 ⟨Nat.zero_le _, Nat.zero_le _⟩) (fun r20 er20 => ?_)
              subst er20
              refine lv_if_eq (tgt := 71) hx hb dX5_multiply_63 (by decide) (fun h21 => ?_) (fun h21 => ?_)
              · skip
                refine lv_iload_n hx hb dX5_multiply_71 rfl (lv_at hl 0 rfl) ?_
                refine lv_iload_n hx hb dX5_multiply_72 rfl (lv_at hl 1 rfl) ?_
                refine lv_bipush (v := 15) hx hb dX5_multiply_73 (by decide) ?_
                refine lv_iand hx hb dX5_multiply_75 ?_
                refine vp_callSi (W.runS (As := [.int (x &&& 15)]) (rest := [.int ((x ^^^ y) &&& 16)]) ⟨hx, hb, hml, hown, hts⟩ (ctX5_quarters l (x &&& 15)) (va_cwS 1 hts (wA_wsS wm_ml_X5_42 wm_st_X5_quarters wm_in_X5 wm_cd_X5_quarters) rfl rfl rfl (by decide +kernel) ⟨Nat.le_of_ble_eq_true rfl, Nat.le_of_ble_eq_true rfl⟩) ⟨fun a U g mk q => q, fun U hU hW => ⟨rfl, trivial⟩⟩ rfl rfl hl.1 rfl (lv_room (Nat.le_of_ble_eq_true rfl)) dX5_multiply_76 ⟨Nat.zero_le _, Nat.zero_le _⟩) (fun r22 er22 => ?_)
                subst er22
                refine lv_iload_n hx hb dX5_multiply_79 rfl (lv_at hl 2 rfl) ?_
                refine lv_bipush (v := 15) hx hb dX5_multiply_80 (by decide) ?_
                refine lv_iand hx hb dX5_multiply_82 ?_
                refine vp_callSi (W.runS (As := [.int (y &&& 15)]) (rest := [.int (pm_q (x &&& 15)), .int ((x ^^^ y) &&& 16)]) ⟨hx, hb, hml, hown, hts⟩ (ctX5_quarters l (y &&& 15)) (va_cwS 1 hts (wA_wsS wm_ml_X5_42 wm_st_X5_quarters wm_in_X5 wm_cd_X5_quarters) rfl rfl rfl (by decide +kernel) ⟨Nat.le_of_ble_eq_true rfl, Nat.le_of_ble_eq_true rfl⟩) ⟨fun a U g mk q => q, fun U hU hW => ⟨rfl, trivial⟩⟩ rfl rfl hl.1 rfl (lv_room (Nat.le_of_ble_eq_true rfl)) dX5_multiply_83 ⟨Nat.zero_le _, Nat.zero_le _⟩) (fun r23 er23 => ?_)
                subst er23
                refine lv_imul hx hb dX5_multiply_86 ?_
                refine vp_callSi (W.runS (As := [.int ((pm_q (x &&& 15)) * (pm_q (y &&& 15)))]) (rest := [.int ((x ^^^ y) &&& 16)]) ⟨hx, hb, hml, hown, hts⟩ (ctX5_round l ((pm_q (x &&& 15)) * (pm_q (y &&& 15)))) (va_cwS 1 hts (wA_wsS wm_ml_X5_52 wm_st_X5_round wm_in_X5 wm_cd_X5_round) rfl rfl rfl (by decide +kernel) ⟨Nat.le_of_ble_eq_true rfl, Nat.le_of_ble_eq_true rfl⟩) ⟨fun a U g mk q => q, fun U hU hW => ⟨rfl, trivial⟩⟩ rfl rfl hl.1 rfl (lv_room (Nat.le_of_ble_eq_true rfl)) dX5_multiply_87 ⟨Nat.zero_le _, Nat.zero_le _⟩) (fun r24 er24 => ?_)
                subst er24
                refine lv_iadd hx hb dX5_multiply_90 ?_
                exact W.iret (v := ((x ^^^ y) &&& 16) + (pm_rnd ((pm_q (x &&& 15)) * (pm_q (y &&& 15))))) hx hb hr (fun t ht hW => ⟨((x ^^^ y) &&& 16) + (pm_rnd ((pm_q (x &&& 15)) * (pm_q (y &&& 15)))), rfl, by first | (simp only [pm_mul, h2, h4, h6, h8, h17, h19, h21, ↓reduceIte, not_true_eq_false, not_false_eq_true, and_true, true_and, and_false, false_and, or_true, true_or, or_false, false_or, and_self, or_self]; done) | (simp [pm_mul, h2, h4, h6, h8, h17, h19, h21]; done) | (simp_all [pm_mul]; done), ht⟩) (fun q hq => by cases hq) dX5_multiply_91
              · skip
                refine lv_iload_n hx hb dX5_multiply_66 rfl (lv_at hl 0 rfl) ?_
                refine lv_bipush (v := 12) hx hb dX5_multiply_67 (by decide) ?_
                refine lv_iadd hx hb dX5_multiply_69 ?_
                exact W.iret (v := ((x ^^^ y) &&& 16) + 12) hx hb hr (fun t ht hW => ⟨((x ^^^ y) &&& 16) + 12, rfl, by first | (simp only [pm_mul, h2, h4, h6, h8, h17, h19, h21, ↓reduceIte, not_true_eq_false, not_false_eq_true, and_true, true_and, and_false, false_and, or_true, true_or, or_false, false_or, and_self, or_self]; done) | (simp [pm_mul, h2, h4, h6, h8, h17, h19, h21]; done) | (simp_all [pm_mul]; done), ht⟩) (fun q hq => by cases hq) dX5_multiply_70
          · skip
            refine lv_bipush (v := 13) hx hb dX5_multiply_42 (by decide) ?_
            exact W.iret (v := 13) hx hb hr (fun t ht hW => ⟨13, rfl, by first | (simp only [pm_mul, h2, h4, h6, h8, h17, ↓reduceIte, not_true_eq_false, not_false_eq_true, and_true, true_and, and_false, false_and, or_true, true_or, or_false, false_or, and_self, or_self]; done) | (simp [pm_mul, h2, h4, h6, h8, h17]; done) | (simp_all [pm_mul]; done), ht⟩) (fun q hq => by cases hq) dX5_multiply_44
      · skip
        refine lv_iload_n hx hb dX5_multiply_21 rfl (lv_at hl 1 rfl) ?_
        refine vp_callSi (W.runS (As := [.int y]) (rest := []) ⟨hx, hb, hml, hown, hts⟩ (ctX5_zero l y) (va_cwS 1 hts (wA_wsS wm_ml_X5_55 wm_st_X5_zero wm_in_X5 wm_cd_X5_zero) rfl rfl rfl (by decide +kernel) ⟨Nat.le_of_ble_eq_true rfl, Nat.le_of_ble_eq_true rfl⟩) ⟨fun a U g mk q => q, fun U hU hW => ⟨rfl, trivial⟩⟩ rfl rfl hl.1 rfl (lv_room (Nat.le_of_ble_eq_true rfl)) dX5_multiply_22 ⟨Nat.zero_le _, Nat.zero_le _⟩) (fun r25 er25 => ?_)
        subst er25
        refine lv_if_ne (tgt := 42) hx hb dX5_multiply_25 (by decide) (fun h26 => ?_) (fun h26 => ?_)
        · skip
          refine lv_bipush (v := 13) hx hb dX5_multiply_42 (by decide) ?_
          exact W.iret (v := 13) hx hb hr (fun t ht hW => ⟨13, rfl, by first | (simp only [pm_mul, h2, h4, h6, h26, ↓reduceIte, not_true_eq_false, not_false_eq_true, and_true, true_and, and_false, false_and, or_true, true_or, or_false, false_or, and_self, or_self]; done) | (simp [pm_mul, h2, h4, h6, h26]; done) | (simp_all [pm_mul]; done), ht⟩) (fun q hq => by cases hq) dX5_multiply_44
        · skip
          refine lv_iload_n hx hb dX5_multiply_28 rfl (lv_at hl 1 rfl) ?_
          refine vp_callSi (W.runS (As := [.int y]) (rest := []) ⟨hx, hb, hml, hown, hts⟩ (ctX5_infinite l y) (va_cwS 1 hts (wA_wsS wm_ml_X5_38 wm_st_X5_infinite wm_in_X5 wm_cd_X5_infinite) rfl rfl rfl (by decide +kernel) ⟨Nat.le_of_ble_eq_true rfl, Nat.le_of_ble_eq_true rfl⟩) ⟨fun a U g mk q => q, fun U hU hW => ⟨rfl, trivial⟩⟩ rfl rfl hl.1 rfl (lv_room (Nat.le_of_ble_eq_true rfl)) dX5_multiply_29 ⟨Nat.zero_le _, Nat.zero_le _⟩) (fun r27 er27 => ?_)
          subst er27
          refine lv_if_eq (tgt := 45) hx hb dX5_multiply_32 (by decide) (fun h28 => ?_) (fun h28 => ?_)
          · skip
            refine lv_iload_n hx hb dX5_multiply_45 rfl (lv_at hl 0 rfl) ?_
            refine lv_iload_n hx hb dX5_multiply_46 rfl (lv_at hl 1 rfl) ?_
            refine lv_ixor hx hb dX5_multiply_47 ?_
            refine lv_bipush (v := 16) hx hb dX5_multiply_48 (by decide) ?_
            refine lv_iand hx hb dX5_multiply_50 ?_
            refine lv_istore_n (lv' := [(2, .int ((x ^^^ y) &&& 16)), (0, .int x), (1, .int y)]) hx hb dX5_multiply_51 rfl hl (by decide) rfl (fun ls hl => ?_)
            refine lv_iload_n hx hb dX5_multiply_52 rfl (lv_at hl 1 rfl) ?_
            refine vp_callSi (W.runS (As := [.int x]) (rest := []) ⟨hx, hb, hml, hown, hts⟩ (ctX5_infinite l x) (va_cwS 1 hts (wA_wsS wm_ml_X5_38 wm_st_X5_infinite wm_in_X5 wm_cd_X5_infinite) rfl rfl rfl (by decide +kernel) ⟨Nat.le_of_ble_eq_true rfl, Nat.le_of_ble_eq_true rfl⟩) ⟨fun a U g mk q => q, fun U hU hW => ⟨rfl, trivial⟩⟩ rfl rfl hl.1 rfl (lv_room (Nat.le_of_ble_eq_true rfl)) dX5_multiply_53 ⟨Nat.zero_le _, Nat.zero_le _⟩) (fun r29 er29 => ?_)
            subst er29
            refine lv_if_ne (tgt := 66) hx hb dX5_multiply_56 (by decide) (fun h30 => ?_) (fun h30 => ?_)
            · skip
              refine lv_iload_n hx hb dX5_multiply_66 rfl (lv_at hl 0 rfl) ?_
              refine lv_bipush (v := 12) hx hb dX5_multiply_67 (by decide) ?_
              refine lv_iadd hx hb dX5_multiply_69 ?_
              exact W.iret (v := ((x ^^^ y) &&& 16) + 12) hx hb hr (fun t ht hW => ⟨((x ^^^ y) &&& 16) + 12, rfl, by first | (simp only [pm_mul, h2, h4, h6, h26, h28, h30, ↓reduceIte, not_true_eq_false, not_false_eq_true, and_true, true_and, and_false, false_and, or_true, true_or, or_false, false_or, and_self, or_self]; done) | (simp [pm_mul, h2, h4, h6, h26, h28, h30]; done) | (simp_all [pm_mul]; done), ht⟩) (fun q hq => by cases hq) dX5_multiply_70
            · skip
              refine lv_iload_n hx hb dX5_multiply_59 rfl (lv_at hl 2 rfl) ?_
              refine vp_callSi (W.runS (As := [.int y]) (rest := []) ⟨hx, hb, hml, hown, hts⟩ (ctX5_infinite l y) (va_cwS 1 hts (wA_wsS wm_ml_X5_38 wm_st_X5_infinite wm_in_X5 wm_cd_X5_infinite) rfl rfl rfl (by decide +kernel) ⟨Nat.le_of_ble_eq_true rfl, Nat.le_of_ble_eq_true rfl⟩) ⟨fun a U g mk q => q, fun U hU hW => ⟨rfl, trivial⟩⟩ rfl rfl hl.1 rfl (lv_room (Nat.le_of_ble_eq_true rfl)) dX5_multiply_60 ⟨Nat.zero_le _, Nat.zero_le _⟩) (fun r31 er31 => ?_)
              subst er31
              refine lv_if_eq (tgt := 71) hx hb dX5_multiply_63 (by decide) (fun h32 => ?_) (fun h32 => ?_)
              · skip
                refine lv_iload_n hx hb dX5_multiply_71 rfl (lv_at hl 0 rfl) ?_
                refine lv_iload_n hx hb dX5_multiply_72 rfl (lv_at hl 1 rfl) ?_
                refine lv_bipush (v := 15) hx hb dX5_multiply_73 (by decide) ?_
                refine lv_iand hx hb dX5_multiply_75 ?_
                refine vp_callSi (W.runS (As := [.int (x &&& 15)]) (rest := [.int ((x ^^^ y) &&& 16)]) ⟨hx, hb, hml, hown, hts⟩ (ctX5_quarters l (x &&& 15)) (va_cwS 1 hts (wA_wsS wm_ml_X5_42 wm_st_X5_quarters wm_in_X5 wm_cd_X5_quarters) rfl rfl rfl (by decide +kernel) ⟨Nat.le_of_ble_eq_true rfl, Nat.le_of_ble_eq_true rfl⟩) ⟨fun a U g mk q => q, fun U hU hW => ⟨rfl, trivial⟩⟩ rfl rfl hl.1 rfl (lv_room (Nat.le_of_ble_eq_true rfl)) dX5_multiply_76 ⟨Nat.zero_le _, Nat.zero_le _⟩) (fun r33 er33 => ?_)
                subst er33
                refine lv_iload_n hx hb dX5_multiply_79 rfl (lv_at hl 2 rfl) ?_
                refine lv_bipush (v := 15) hx hb dX5_multiply_80 (by decide) ?_
                refine lv_iand hx hb dX5_multiply_82 ?_
                refine vp_callSi (W.runS (As := [.int (y &&& 15)]) (rest := [.int (pm_q (x &&& 15)), .int ((x ^^^ y) &&& 16)]) ⟨hx, hb, hml, hown, hts⟩ (ctX5_quarters l (y &&& 15)) (va_cwS 1 hts (wA_wsS wm_ml_X5_42 wm_st_X5_quarters wm_in_X5 wm_cd_X5_quarters) rfl rfl rfl (by decide +kernel) ⟨Nat.le_of_ble_eq_true rfl, Nat.le_of_ble_eq_true rfl⟩) ⟨fun a U g mk q => q, fun U hU hW => ⟨rfl, trivial⟩⟩ rfl rfl hl.1 rfl (lv_room (Nat.le_of_ble_eq_true rfl)) dX5_multiply_83 ⟨Nat.zero_le _, Nat.zero_le _⟩) (fun r34 er34 => ?_)
                subst er34
                refine lv_imul hx hb dX5_multiply_86 ?_
                refine vp_callSi (W.runS (As := [.int ((pm_q (x &&& 15)) * (pm_q (y &&& 15)))]) (rest := [.int ((x ^^^ y) &&& 16)]) ⟨hx, hb, hml, hown, hts⟩ (ctX5_round l ((pm_q (x &&& 15)) * (pm_q (y &&& 15)))) (va_cwS 1 hts (wA_wsS wm_ml_X5_52 wm_st_X5_round wm_in_X5 wm_cd_X5_round) rfl rfl rfl (by decide +kernel) ⟨Nat.le_of_ble_eq_true rfl, Nat.le_of_ble_eq_true rfl⟩) ⟨fun a U g mk q => q, fun U hU hW => ⟨rfl, trivial⟩⟩ rfl rfl hl.1 rfl (lv_room (Nat.le_of_ble_eq_true rfl)) dX5_multiply_87 ⟨Nat.zero_le _, Nat.zero_le _⟩) (fun r35 er35 => ?_)
                subst er35
                refine lv_iadd hx hb dX5_multiply_90 ?_
                exact W.iret (v := ((x ^^^ y) &&& 16) + (pm_rnd ((pm_q (x &&& 15)) * (pm_q (y &&& 15))))) hx hb hr (fun t ht hW => ⟨((x ^^^ y) &&& 16) + (pm_rnd ((pm_q (x &&& 15)) * (pm_q (y &&& 15)))), rfl, by first | (simp only [pm_mul, h2, h4, h6, h26, h28, h30, h32, ↓reduceIte, not_true_eq_false, not_false_eq_true, and_true, true_and, and_false, false_and, or_true, true_or, or_false, false_or, and_self, or_self]; done) | (simp [pm_mul, h2, h4, h6, h26, h28, h30, h32]; done) | (simp_all [pm_mul]; done), ht⟩) (fun q hq => by cases hq) dX5_multiply_91
              · skip
                refine lv_iload_n hx hb dX5_multiply_66 rfl (lv_at hl 0 rfl) ?_
                refine lv_bipush (v := 12) hx hb dX5_multiply_67 (by decide) ?_
                refine lv_iadd hx hb dX5_multiply_69 ?_
                exact W.iret (v := ((x ^^^ y) &&& 16) + 12) hx hb hr (fun t ht hW => ⟨((x ^^^ y) &&& 16) + 12, rfl, by first | (simp only [pm_mul, h2, h4, h6, h26, h28, h30, h32, ↓reduceIte, not_true_eq_false, not_false_eq_true, and_true, true_and, and_false, false_and, or_true, true_or, or_false, false_or, and_self, or_self]; done) | (simp [pm_mul, h2, h4, h6, h26, h28, h30, h32]; done) | (simp_all [pm_mul]; done), ht⟩) (fun q hq => by cases hq) dX5_multiply_70
          · skip
            refine lv_iload_n hx hb dX5_multiply_35 rfl (lv_at hl 0 rfl) ?_
            refine vp_callSi (W.runS (As := [.int x]) (rest := []) ⟨hx, hb, hml, hown, hts⟩ (ctX5_zero l x) (va_cwS 1 hts (wA_wsS wm_ml_X5_55 wm_st_X5_zero wm_in_X5 wm_cd_X5_zero) rfl rfl rfl (by decide +kernel) ⟨Nat.le_of_ble_eq_true rfl, Nat.le_of_ble_eq_true rfl⟩) ⟨fun a U g mk q => q, fun U hU hW => ⟨rfl, trivial⟩⟩ rfl rfl hl.1 rfl (lv_room (Nat.le_of_ble_eq_true rfl)) dX5_multiply_36 ⟨Nat.zero_le _, Nat.zero_le _⟩) (fun r36 er36 => ?_)
            subst er36
            refine lv_if_eq (tgt := 45) hx hb dX5_multiply_39 (by decide) (fun h37 => ?_) (fun h37 => ?_)
            · skip
              refine lv_iload_n hx hb dX5_multiply_45 rfl (lv_at hl 0 rfl) ?_
              refine lv_iload_n hx hb dX5_multiply_46 rfl (lv_at hl 1 rfl) ?_
              refine lv_ixor hx hb dX5_multiply_47 ?_
              refine lv_bipush (v := 16) hx hb dX5_multiply_48 (by decide) ?_
              refine lv_iand hx hb dX5_multiply_50 ?_
              refine lv_istore_n (lv' := [(2, .int ((x ^^^ y) &&& 16)), (0, .int x), (1, .int y)]) hx hb dX5_multiply_51 rfl hl (by decide) rfl (fun ls hl => ?_)
              refine lv_iload_n hx hb dX5_multiply_52 rfl (lv_at hl 1 rfl) ?_
              refine vp_callSi (W.runS (As := [.int x]) (rest := []) ⟨hx, hb, hml, hown, hts⟩ (ctX5_infinite l x) (va_cwS 1 hts (wA_wsS wm_ml_X5_38 wm_st_X5_infinite wm_in_X5 wm_cd_X5_infinite) rfl rfl rfl (by decide +kernel) ⟨Nat.le_of_ble_eq_true rfl, Nat.le_of_ble_eq_true rfl⟩) ⟨fun a U g mk q => q, fun U hU hW => ⟨rfl, trivial⟩⟩ rfl rfl hl.1 rfl (lv_room (Nat.le_of_ble_eq_true rfl)) dX5_multiply_53 ⟨Nat.zero_le _, Nat.zero_le _⟩) (fun r38 er38 => ?_)
              subst er38
              refine lv_if_ne (tgt := 66) hx hb dX5_multiply_56 (by decide) (fun h39 => ?_) (fun h39 => ?_)
              · skip
                refine lv_iload_n hx hb dX5_multiply_66 rfl (lv_at hl 0 rfl) ?_
                refine lv_bipush (v := 12) hx hb dX5_multiply_67 (by decide) ?_
                refine lv_iadd hx hb dX5_multiply_69 ?_
                exact W.iret (v := ((x ^^^ y) &&& 16) + 12) hx hb hr (fun t ht hW => ⟨((x ^^^ y) &&& 16) + 12, rfl, by first | (simp only [pm_mul, h2, h4, h6, h26, h28, h37, h39, ↓reduceIte, not_true_eq_false, not_false_eq_true, and_true, true_and, and_false, false_and, or_true, true_or, or_false, false_or, and_self, or_self]; done) | (simp [pm_mul, h2, h4, h6, h26, h28, h37, h39]; done) | (simp_all [pm_mul]; done), ht⟩) (fun q hq => by cases hq) dX5_multiply_70
              · skip
                refine lv_iload_n hx hb dX5_multiply_59 rfl (lv_at hl 2 rfl) ?_
                refine vp_callSi (W.runS (As := [.int y]) (rest := []) ⟨hx, hb, hml, hown, hts⟩ (ctX5_infinite l y) (va_cwS 1 hts (wA_wsS wm_ml_X5_38 wm_st_X5_infinite wm_in_X5 wm_cd_X5_infinite) rfl rfl rfl (by decide +kernel) ⟨Nat.le_of_ble_eq_true rfl, Nat.le_of_ble_eq_true rfl⟩) ⟨fun a U g mk q => q, fun U hU hW => ⟨rfl, trivial⟩⟩ rfl rfl hl.1 rfl (lv_room (Nat.le_of_ble_eq_true rfl)) dX5_multiply_60 ⟨Nat.zero_le _, Nat.zero_le _⟩) (fun r40 er40 => ?_)
                subst er40
                refine lv_if_eq (tgt := 71) hx hb dX5_multiply_63 (by decide) (fun h41 => ?_) (fun h41 => ?_)
                · skip
                  refine lv_iload_n hx hb dX5_multiply_71 rfl (lv_at hl 0 rfl) ?_
                  refine lv_iload_n hx hb dX5_multiply_72 rfl (lv_at hl 1 rfl) ?_
                  refine lv_bipush (v := 15) hx hb dX5_multiply_73 (by decide) ?_
                  refine lv_iand hx hb dX5_multiply_75 ?_
                  refine vp_callSi (W.runS (As := [.int (x &&& 15)]) (rest := [.int ((x ^^^ y) &&& 16)]) ⟨hx, hb, hml, hown, hts⟩ (ctX5_quarters l (x &&& 15)) (va_cwS 1 hts (wA_wsS wm_ml_X5_42 wm_st_X5_quarters wm_in_X5 wm_cd_X5_quarters) rfl rfl rfl (by decide +kernel) ⟨Nat.le_of_ble_eq_true rfl, Nat.le_of_ble_eq_true rfl⟩) ⟨fun a U g mk q => q, fun U hU hW => ⟨rfl, trivial⟩⟩ rfl rfl hl.1 rfl (lv_room (Nat.le_of_ble_eq_true rfl)) dX5_multiply_76 ⟨Nat.zero_le _, Nat.zero_le _⟩) (fun r42 er42 => ?_)
                  subst er42
                  refine lv_iload_n hx hb dX5_multiply_79 rfl (lv_at hl 2 rfl) ?_
                  refine lv_bipush (v := 15) hx hb dX5_multiply_80 (by decide) ?_
                  refine lv_iand hx hb dX5_multiply_82 ?_
                  refine vp_callSi (W.runS (As := [.int (y &&& 15)]) (rest := [.int (pm_q (x &&& 15)), .int ((x ^^^ y) &&& 16)]) ⟨hx, hb, hml, hown, hts⟩ (ctX5_quarters l (y &&& 15)) (va_cwS 1 hts (wA_wsS wm_ml_X5_42 wm_st_X5_quarters wm_in_X5 wm_cd_X5_quarters) rfl rfl rfl (by decide +kernel) ⟨Nat.le_of_ble_eq_true rfl, Nat.le_of_ble_eq_true rfl⟩) ⟨fun a U g mk q => q, fun U hU hW => ⟨rfl, trivial⟩⟩ rfl rfl hl.1 rfl (lv_room (Nat.le_of_ble_eq_true rfl)) dX5_multiply_83 ⟨Nat.zero_le _, Nat.zero_le _⟩) (fun r43 er43 => ?_)
                  subst er43
                  refine lv_imul hx hb dX5_multiply_86 ?_
                  refine vp_callSi (W.runS (As := [.int ((pm_q (x &&& 15)) * (pm_q (y &&& 15)))]) (rest := [.int ((x ^^^ y) &&& 16)]) ⟨hx, hb, hml, hown, hts⟩ (ctX5_round l ((pm_q (x &&& 15)) * (pm_q (y &&& 15)))) (va_cwS 1 hts (wA_wsS wm_ml_X5_52 wm_st_X5_round wm_in_X5 wm_cd_X5_round) rfl rfl rfl (by decide +kernel) ⟨Nat.le_of_ble_eq_true rfl, Nat.le_of_ble_eq_true rfl⟩) ⟨fun a U g mk q => q, fun U hU hW => ⟨rfl, trivial⟩⟩ rfl rfl hl.1 rfl (lv_room (Nat.le_of_ble_eq_true rfl)) dX5_multiply_87 ⟨Nat.zero_le _, Nat.zero_le _⟩) (fun r44 er44 => ?_)
                  subst er44
                  refine lv_iadd hx hb dX5_multiply_90 ?_
                  exact W.iret (v := ((x ^^^ y) &&& 16) + (pm_rnd ((pm_q (x &&& 15)) * (pm_q (y &&& 15))))) hx hb hr (fun t ht hW => ⟨((x ^^^ y) &&& 16) + (pm_rnd ((pm_q (x &&& 15)) * (pm_q (y &&& 15)))), rfl, by first | (simp only [pm_mul, h2, h4, h6, h26, h28, h37, h39, h41, ↓reduceIte, not_true_eq_false, not_false_eq_true, and_true, true_and, and_false, false_and, or_true, true_or, or_false, false_or, and_self, or_self]; done) | (simp [pm_mul, h2, h4, h6, h26, h28, h37, h39, h41]; done) | (simp_all [pm_mul]; done), ht⟩) (fun q hq => by cases hq) dX5_multiply_91
                · skip
                  refine lv_iload_n hx hb dX5_multiply_66 rfl (lv_at hl 0 rfl) ?_
                  refine lv_bipush (v := 12) hx hb dX5_multiply_67 (by decide) ?_
                  refine lv_iadd hx hb dX5_multiply_69 ?_
                  exact W.iret (v := ((x ^^^ y) &&& 16) + 12) hx hb hr (fun t ht hW => ⟨((x ^^^ y) &&& 16) + 12, rfl, by first | (simp only [pm_mul, h2, h4, h6, h26, h28, h37, h39, h41, ↓reduceIte, not_true_eq_false, not_false_eq_true, and_true, true_and, and_false, false_and, or_true, true_or, or_false, false_or, and_self, or_self]; done) | (simp [pm_mul, h2, h4, h6, h26, h28, h37, h39, h41]; done) | (simp_all [pm_mul]; done), ht⟩) (fun q hq => by cases hq) dX5_multiply_70
            · skip
              refine lv_bipush (v := 13) hx hb dX5_multiply_42 (by decide) ?_
              exact W.iret (v := 13) hx hb hr (fun t ht hW => ⟨13, rfl, by first | (simp only [pm_mul, h2, h4, h6, h26, h28, h37, ↓reduceIte, not_true_eq_false, not_false_eq_true, and_true, true_and, and_false, false_and, or_true, true_or, or_false, false_or, and_self, or_self]; done) | (simp [pm_mul, h2, h4, h6, h26, h28, h37]; done) | (simp_all [pm_mul]; done), ht⟩) (fun q hq => by cases hq) dX5_multiply_44
set_option maxHeartbeats 4000000 in
set_option maxRecDepth 100000 in
theorem ctX5_operate (l : Launch) (k x y : Int32) : Met l yX5_operate wsX5_operate ({ frames := 3, cells := 0, slots := 0, locals := 68 }) (va_Pc [.int k, .int x, .int y] (fun _ => True)) (vp_Si (fun r => r = pm_op k x y)) 0 0 (fun _ => False) := by
  refine Met.ofW (cc := cX5_operate) (maxL := 3) (ret := (some .int)) (by decide) rfl ?_
  intro p e s m args below meth c s₁ B hml hv
  obtain ⟨rfl, -⟩ := hv
  have hx := B.exec
  have hb := B.bytes
  have hr := B.returns
  have hts := atoms_spec (ws := wsX5_operate) B.pre
  have hown : s.vm.findClass RX5 = some m.cls := findClass_of_methodNamed B.named
  have hlocks := B.notSynchronized
  have hl := lv_entry ([.int k, .int x, .int y]) (n := 3) (Nat.le_of_ble_eq_true rfl)
  rw [lg_entry_eq]
  generalize (lg_sl ([.int k, .int x, .int y]) ++ List.replicate (3 - (lg_sl ([.int k, .int x, .int y])).length) Slot.unset).toArray = ls at hl ⊢
  have hl : lv_has ls 3 [(0, .int k), (1, .int x), (2, .int y)] := hl
  refine lv_iload_n hx hb dX5_operate_0 rfl (lv_at hl 0 rfl) ?_
  by_cases k1 : k = 2
  · refine lv_tableIn (off := 83) (tgt := 84) hx hb dX5_operate_1 (by rw [k1]; decide) (by rw [k1]; decide) (by rw [k1]; rfl) (by decide) ?_
    refine lv_iload_n hx hb dX5_operate_84 rfl (lv_at hl 1 rfl) ?_
    refine lv_bipush (v := 16) hx hb dX5_operate_85 (by decide) ?_
    refine lv_ixor hx hb dX5_operate_87 ?_
    exact W.iret (v := x ^^^ 16) hx hb hr (fun t ht hW => ⟨x ^^^ 16, rfl, by first | (subst k1; simp [pm_op, pm_tru, pu_nan]; done) | (simp [pm_op, pm_tru, k1]; done) | (subst k1; simp_all [pm_op, pm_tru]; done) | (simp_all [pm_op, pm_tru]; done), ht⟩) (fun q hq => by cases hq) dX5_operate_88
  by_cases k2 : k = 3
  · refine lv_tableIn (off := 88) (tgt := 89) hx hb dX5_operate_1 (by rw [k2]; decide) (by rw [k2]; decide) (by rw [k2]; rfl) (by decide) ?_
    refine lv_iload_n hx hb dX5_operate_89 rfl (lv_at hl 1 rfl) ?_
    refine lv_bipush (v := 15) hx hb dX5_operate_90 (by decide) ?_
    refine lv_iand hx hb dX5_operate_92 ?_
    exact W.iret (v := x &&& 15) hx hb hr (fun t ht hW => ⟨x &&& 15, rfl, by first | (subst k2; simp [pm_op, pm_tru, pu_nan]; done) | (simp [pm_op, pm_tru, k1, k2]; done) | (subst k2; simp_all [pm_op, pm_tru]; done) | (simp_all [pm_op, pm_tru]; done), ht⟩) (fun q hq => by cases hq) dX5_operate_93
  by_cases k3 : k = 4
  · refine lv_tableIn (off := 93) (tgt := 94) hx hb dX5_operate_1 (by rw [k3]; decide) (by rw [k3]; decide) (by rw [k3]; rfl) (by decide) ?_
    refine lv_iload_n hx hb dX5_operate_94 rfl (lv_at hl 1 rfl) ?_
    refine lv_iload_n hx hb dX5_operate_95 rfl (lv_at hl 2 rfl) ?_
    refine vp_callSi (W.runS (As := [.int x, .int y]) (rest := []) ⟨hx, hb, hml, hown, hts⟩ (ctX5_add l x y) (va_cwS 2 hts (wA_wsS wm_ml_X5_58 wm_st_X5_add wm_in_X5 wm_cd_X5_add) rfl rfl rfl (by decide +kernel) ⟨Nat.le_of_ble_eq_true rfl, Nat.le_of_ble_eq_true rfl⟩) ⟨fun a U g mk q => q, fun U hU hW => ⟨rfl, trivial⟩⟩ rfl rfl hl.1 rfl (lv_room (Nat.le_of_ble_eq_true rfl)) dX5_operate_96 ⟨Nat.zero_le _, Nat.zero_le _⟩) (fun r4 er4 => ?_)
    subst er4
    exact W.iret (v := pm_add x y) hx hb hr (fun t ht hW => ⟨pm_add x y, rfl, by first | (subst k3; simp [pm_op, pm_tru, pu_nan]; done) | (simp [pm_op, pm_tru, k1, k2, k3]; done) | (subst k3; simp_all [pm_op, pm_tru]; done) | (simp_all [pm_op, pm_tru]; done), ht⟩) (fun q hq => by cases hq) dX5_operate_99
  by_cases k5 : k = 5
  · refine lv_tableIn (off := 99) (tgt := 100) hx hb dX5_operate_1 (by rw [k5]; decide) (by rw [k5]; decide) (by rw [k5]; rfl) (by decide) ?_
    refine lv_iload_n hx hb dX5_operate_100 rfl (lv_at hl 1 rfl) ?_
    refine lv_iload_n hx hb dX5_operate_101 rfl (lv_at hl 2 rfl) ?_
    refine lv_bipush (v := 16) hx hb dX5_operate_102 (by decide) ?_
    refine lv_ixor hx hb dX5_operate_104 ?_
    refine vp_callSi (W.runS (As := [.int x, .int (y ^^^ 16)]) (rest := []) ⟨hx, hb, hml, hown, hts⟩ (ctX5_add l x (y ^^^ 16)) (va_cwS 2 hts (wA_wsS wm_ml_X5_58 wm_st_X5_add wm_in_X5 wm_cd_X5_add) rfl rfl rfl (by decide +kernel) ⟨Nat.le_of_ble_eq_true rfl, Nat.le_of_ble_eq_true rfl⟩) ⟨fun a U g mk q => q, fun U hU hW => ⟨rfl, trivial⟩⟩ rfl rfl hl.1 rfl (lv_room (Nat.le_of_ble_eq_true rfl)) dX5_operate_105 ⟨Nat.zero_le _, Nat.zero_le _⟩) (fun r6 er6 => ?_)
    subst er6
    exact W.iret (v := pm_add x (y ^^^ 16)) hx hb hr (fun t ht hW => ⟨pm_add x (y ^^^ 16), rfl, by first | (subst k5; simp [pm_op, pm_tru, pu_nan]; done) | (simp [pm_op, pm_tru, k1, k2, k3, k5]; done) | (subst k5; simp_all [pm_op, pm_tru]; done) | (simp_all [pm_op, pm_tru]; done), ht⟩) (fun q hq => by cases hq) dX5_operate_108
  by_cases k7 : k = 6
  · refine lv_tableIn (off := 108) (tgt := 109) hx hb dX5_operate_1 (by rw [k7]; decide) (by rw [k7]; decide) (by rw [k7]; rfl) (by decide) ?_
    refine lv_iload_n hx hb dX5_operate_109 rfl (lv_at hl 1 rfl) ?_
    refine lv_iload_n hx hb dX5_operate_110 rfl (lv_at hl 2 rfl) ?_
    refine vp_callSi (W.runS (As := [.int x, .int y]) (rest := []) ⟨hx, hb, hml, hown, hts⟩ (ctX5_multiply l x y) (va_cwS 2 hts (wA_wsS wm_ml_X5_62 wm_st_X5_multiply wm_in_X5 wm_cd_X5_multiply) rfl rfl rfl (by decide +kernel) ⟨Nat.le_of_ble_eq_true rfl, Nat.le_of_ble_eq_true rfl⟩) ⟨fun a U g mk q => q, fun U hU hW => ⟨rfl, trivial⟩⟩ rfl rfl hl.1 rfl (lv_room (Nat.le_of_ble_eq_true rfl)) dX5_operate_111 ⟨Nat.zero_le _, Nat.zero_le _⟩) (fun r8 er8 => ?_)
    subst er8
    exact W.iret (v := pm_mul x y) hx hb hr (fun t ht hW => ⟨pm_mul x y, rfl, by first | (subst k7; simp [pm_op, pm_tru, pu_nan]; done) | (simp [pm_op, pm_tru, k1, k2, k3, k5, k7]; done) | (subst k7; simp_all [pm_op, pm_tru]; done) | (simp_all [pm_op, pm_tru]; done), ht⟩) (fun q hq => by cases hq) dX5_operate_114
  by_cases k9 : k = 7
  · refine lv_tableIn (off := 114) (tgt := 115) hx hb dX5_operate_1 (by rw [k9]; decide) (by rw [k9]; decide) (by rw [k9]; rfl) (by decide) ?_
    refine lv_iload_n hx hb dX5_operate_115 rfl (lv_at hl 1 rfl) ?_
    refine vp_callSi (W.runS (As := [.int x]) (rest := []) ⟨hx, hb, hml, hown, hts⟩ (ctX5_nan l x) (va_cwS 1 hts (wA_wsS wm_ml_X5_46 wm_st_X5_nan wm_in_X5 wm_cd_X5_nan) rfl rfl rfl (by decide +kernel) ⟨Nat.le_of_ble_eq_true rfl, Nat.le_of_ble_eq_true rfl⟩) ⟨fun a U g mk q => q, fun U hU hW => ⟨rfl, trivial⟩⟩ rfl rfl hl.1 rfl (lv_room (Nat.le_of_ble_eq_true rfl)) dX5_operate_116 ⟨Nat.zero_le _, Nat.zero_le _⟩) (fun r10 er10 => ?_)
    subst er10
    refine lv_if_ne (tgt := 130) hx hb dX5_operate_119 (by decide) (fun h11 => ?_) (fun h11 => ?_)
    · skip
      refine lv_iload_n hx hb dX5_operate_130 rfl (lv_at hl 2 rfl) ?_
      refine lv_goto (tgt := 135) hx hb dX5_operate_131 (by decide) ?_
      exact W.iret (v := y) hx hb hr (fun t ht hW => ⟨y, rfl, by first | (subst k9; simp [pm_op, pm_tru, h11]; done) | (simp [pm_op, pm_tru, k1, k2, k3, k5, k7, k9, h11]; done) | (subst k9; simp_all [pm_op, pm_tru]; done) | (simp_all [pm_op, pm_tru]; done), ht⟩) (fun q hq => by cases hq) dX5_operate_135
    · skip
      refine lv_iload_n hx hb dX5_operate_122 rfl (lv_at hl 2 rfl) ?_
      refine lv_iload_n hx hb dX5_operate_123 rfl (lv_at hl 1 rfl) ?_
      refine vp_callSi (W.runS (As := [.int y, .int x]) (rest := []) ⟨hx, hb, hml, hown, hts⟩ (ctX5_less l y x) (va_cwS 2 hts (wA_wsS wm_ml_X5_65 wm_st_X5_less wm_in_X5 wm_cd_X5_less) rfl rfl rfl (by decide +kernel) ⟨Nat.le_of_ble_eq_true rfl, Nat.le_of_ble_eq_true rfl⟩) ⟨fun a U g mk q => q, fun U hU hW => ⟨rfl, trivial⟩⟩ rfl rfl hl.1 rfl (lv_room (Nat.le_of_ble_eq_true rfl)) dX5_operate_124 ⟨Nat.zero_le _, Nat.zero_le _⟩) (fun r12 er12 => ?_)
      subst er12
      refine lv_if_eq (tgt := 134) hx hb dX5_operate_127 (by decide) (fun h13 => ?_) (fun h13 => ?_)
      · skip
        refine lv_iload_n hx hb dX5_operate_134 rfl (lv_at hl 1 rfl) ?_
        exact W.iret (v := x) hx hb hr (fun t ht hW => ⟨x, rfl, by first | (subst k9; simp [pm_op, pm_tru, h11, h13]; done) | (simp [pm_op, pm_tru, k1, k2, k3, k5, k7, k9, h11, h13]; done) | (subst k9; simp_all [pm_op, pm_tru]; done) | (simp_all [pm_op, pm_tru]; done), ht⟩) (fun q hq => by cases hq) dX5_operate_135
      · skip
        refine lv_iload_n hx hb dX5_operate_130 rfl (lv_at hl 2 rfl) ?_
        refine lv_goto (tgt := 135) hx hb dX5_operate_131 (by decide) ?_
        exact W.iret (v := y) hx hb hr (fun t ht hW => ⟨y, rfl, by first | (subst k9; simp [pm_op, pm_tru, h11, h13]; done) | (simp [pm_op, pm_tru, k1, k2, k3, k5, k7, k9, h11, h13]; done) | (subst k9; simp_all [pm_op, pm_tru]; done) | (simp_all [pm_op, pm_tru]; done), ht⟩) (fun q hq => by cases hq) dX5_operate_135
  by_cases k14 : k = 8
  · refine lv_tableIn (off := 135) (tgt := 136) hx hb dX5_operate_1 (by rw [k14]; decide) (by rw [k14]; decide) (by rw [k14]; rfl) (by decide) ?_
    refine lv_iload_n hx hb dX5_operate_136 rfl (lv_at hl 1 rfl) ?_
    refine vp_callSi (W.runS (As := [.int x]) (rest := []) ⟨hx, hb, hml, hown, hts⟩ (ctX5_nan l x) (va_cwS 1 hts (wA_wsS wm_ml_X5_46 wm_st_X5_nan wm_in_X5 wm_cd_X5_nan) rfl rfl rfl (by decide +kernel) ⟨Nat.le_of_ble_eq_true rfl, Nat.le_of_ble_eq_true rfl⟩) ⟨fun a U g mk q => q, fun U hU hW => ⟨rfl, trivial⟩⟩ rfl rfl hl.1 rfl (lv_room (Nat.le_of_ble_eq_true rfl)) dX5_operate_137 ⟨Nat.zero_le _, Nat.zero_le _⟩) (fun r15 er15 => ?_)
    subst er15
    refine lv_if_ne (tgt := 151) hx hb dX5_operate_140 (by decide) (fun h16 => ?_) (fun h16 => ?_)
    · skip
      refine lv_iload_n hx hb dX5_operate_151 rfl (lv_at hl 2 rfl) ?_
      refine lv_goto (tgt := 156) hx hb dX5_operate_152 (by decide) ?_
      exact W.iret (v := y) hx hb hr (fun t ht hW => ⟨y, rfl, by first | (subst k14; simp [pm_op, pm_tru, h16]; done) | (simp [pm_op, pm_tru, k1, k2, k3, k5, k7, k9, k14, h16]; done) | (subst k14; simp_all [pm_op, pm_tru]; done) | (simp_all [pm_op, pm_tru]; done), ht⟩) (fun q hq => by cases hq) dX5_operate_156
    · skip
      refine lv_iload_n hx hb dX5_operate_143 rfl (lv_at hl 1 rfl) ?_
      refine lv_iload_n hx hb dX5_operate_144 rfl (lv_at hl 2 rfl) ?_
      refine vp_callSi (W.runS (As := [.int x, .int y]) (rest := []) ⟨hx, hb, hml, hown, hts⟩ (ctX5_less l x y) (va_cwS 2 hts (wA_wsS wm_ml_X5_65 wm_st_X5_less wm_in_X5 wm_cd_X5_less) rfl rfl rfl (by decide +kernel) ⟨Nat.le_of_ble_eq_true rfl, Nat.le_of_ble_eq_true rfl⟩) ⟨fun a U g mk q => q, fun U hU hW => ⟨rfl, trivial⟩⟩ rfl rfl hl.1 rfl (lv_room (Nat.le_of_ble_eq_true rfl)) dX5_operate_145 ⟨Nat.zero_le _, Nat.zero_le _⟩) (fun r17 er17 => ?_)
      subst er17
      refine lv_if_eq (tgt := 155) hx hb dX5_operate_148 (by decide) (fun h18 => ?_) (fun h18 => ?_)
      · skip
        refine lv_iload_n hx hb dX5_operate_155 rfl (lv_at hl 1 rfl) ?_
        exact W.iret (v := x) hx hb hr (fun t ht hW => ⟨x, rfl, by first | (subst k14; simp [pm_op, pm_tru, h16, h18]; done) | (simp [pm_op, pm_tru, k1, k2, k3, k5, k7, k9, k14, h16, h18]; done) | (subst k14; simp_all [pm_op, pm_tru]; done) | (simp_all [pm_op, pm_tru]; done), ht⟩) (fun q hq => by cases hq) dX5_operate_156
      · skip
        refine lv_iload_n hx hb dX5_operate_151 rfl (lv_at hl 2 rfl) ?_
        refine lv_goto (tgt := 156) hx hb dX5_operate_152 (by decide) ?_
        exact W.iret (v := y) hx hb hr (fun t ht hW => ⟨y, rfl, by first | (subst k14; simp [pm_op, pm_tru, h16, h18]; done) | (simp [pm_op, pm_tru, k1, k2, k3, k5, k7, k9, k14, h16, h18]; done) | (subst k14; simp_all [pm_op, pm_tru]; done) | (simp_all [pm_op, pm_tru]; done), ht⟩) (fun q hq => by cases hq) dX5_operate_156
  by_cases k19 : k = 10
  · refine lv_tableIn (off := 156) (tgt := 157) hx hb dX5_operate_1 (by rw [k19]; decide) (by rw [k19]; decide) (by rw [k19]; rfl) (by decide) ?_
    refine lv_iload_n hx hb dX5_operate_157 rfl (lv_at hl 1 rfl) ?_
    refine lv_iload_n hx hb dX5_operate_158 rfl (lv_at hl 2 rfl) ?_
    refine lv_icmp_eq (tgt := 176) hx hb dX5_operate_159 (by decide) (fun h20 => ?_) (fun h20 => ?_)
    · skip
      refine lv_iconst (v := 1) hx hb dX5_operate_176 (by decide) ?_
      refine lv_goto (tgt := 181) hx hb dX5_operate_177 (by decide) ?_
      refine vp_callSi (W.runS (As := [.int 1]) (rest := []) ⟨hx, hb, hml, hown, hts⟩ (ctX5_truth l 1) (va_cwS 1 hts (wA_wsS wm_ml_X5_69 wm_st_X5_truth wm_in_X5 wm_cd_X5_truth) rfl rfl rfl (by decide +kernel) ⟨Nat.le_of_ble_eq_true rfl, Nat.le_of_ble_eq_true rfl⟩) ⟨fun a U g mk q => q, fun U hU hW => ⟨rfl, trivial⟩⟩ rfl rfl hl.1 rfl (lv_room (Nat.le_of_ble_eq_true rfl)) dX5_operate_181 ⟨Nat.zero_le _, Nat.zero_le _⟩) (fun r21 er21 => ?_)
      subst er21
      exact W.iret (v := pm_tru 1) hx hb hr (fun t ht hW => ⟨pm_tru 1, rfl, by first | (subst k19; simp [pm_op, pm_tru, h20]; done) | (simp [pm_op, pm_tru, k1, k2, k3, k5, k7, k9, k14, k19, h20]; done) | (subst k19; simp_all [pm_op, pm_tru]; done) | (simp_all [pm_op, pm_tru]; done), ht⟩) (fun q hq => by cases hq) dX5_operate_184
    · skip
      refine lv_iload_n hx hb dX5_operate_162 rfl (lv_at hl 1 rfl) ?_
      refine vp_callSi (W.runS (As := [.int x]) (rest := []) ⟨hx, hb, hml, hown, hts⟩ (ctX5_nan l x) (va_cwS 1 hts (wA_wsS wm_ml_X5_46 wm_st_X5_nan wm_in_X5 wm_cd_X5_nan) rfl rfl rfl (by decide +kernel) ⟨Nat.le_of_ble_eq_true rfl, Nat.le_of_ble_eq_true rfl⟩) ⟨fun a U g mk q => q, fun U hU hW => ⟨rfl, trivial⟩⟩ rfl rfl hl.1 rfl (lv_room (Nat.le_of_ble_eq_true rfl)) dX5_operate_163 ⟨Nat.zero_le _, Nat.zero_le _⟩) (fun r22 er22 => ?_)
      subst er22
      refine lv_if_eq (tgt := 180) hx hb dX5_operate_166 (by decide) (fun h23 => ?_) (fun h23 => ?_)
      · skip
        refine lv_iconst (v := 0) hx hb dX5_operate_180 (by decide) ?_
        refine vp_callSi (W.runS (As := [.int 0]) (rest := []) ⟨hx, hb, hml, hown, hts⟩ (ctX5_truth l 0) (va_cwS 1 hts (wA_wsS wm_ml_X5_69 wm_st_X5_truth wm_in_X5 wm_cd_X5_truth) rfl rfl rfl (by decide +kernel) ⟨Nat.le_of_ble_eq_true rfl, Nat.le_of_ble_eq_true rfl⟩) ⟨fun a U g mk q => q, fun U hU hW => ⟨rfl, trivial⟩⟩ rfl rfl hl.1 rfl (lv_room (Nat.le_of_ble_eq_true rfl)) dX5_operate_181 ⟨Nat.zero_le _, Nat.zero_le _⟩) (fun r24 er24 => ?_)
        subst er24
        exact W.iret (v := pm_tru 0) hx hb hr (fun t ht hW => ⟨pm_tru 0, rfl, by first | (subst k19; simp [pm_op, pm_tru, h20, h23]; done) | (simp [pm_op, pm_tru, k1, k2, k3, k5, k7, k9, k14, k19, h20, h23]; done) | (subst k19; simp_all [pm_op, pm_tru]; done) | (simp_all [pm_op, pm_tru]; done), ht⟩) (fun q hq => by cases hq) dX5_operate_184
      · skip
        refine lv_iload_n hx hb dX5_operate_169 rfl (lv_at hl 2 rfl) ?_
        refine vp_callSi (W.runS (As := [.int y]) (rest := []) ⟨hx, hb, hml, hown, hts⟩ (ctX5_nan l y) (va_cwS 1 hts (wA_wsS wm_ml_X5_46 wm_st_X5_nan wm_in_X5 wm_cd_X5_nan) rfl rfl rfl (by decide +kernel) ⟨Nat.le_of_ble_eq_true rfl, Nat.le_of_ble_eq_true rfl⟩) ⟨fun a U g mk q => q, fun U hU hW => ⟨rfl, trivial⟩⟩ rfl rfl hl.1 rfl (lv_room (Nat.le_of_ble_eq_true rfl)) dX5_operate_170 ⟨Nat.zero_le _, Nat.zero_le _⟩) (fun r25 er25 => ?_)
        subst er25
        refine lv_if_eq (tgt := 180) hx hb dX5_operate_173 (by decide) (fun h26 => ?_) (fun h26 => ?_)
        · skip
          refine lv_iconst (v := 0) hx hb dX5_operate_180 (by decide) ?_
          refine vp_callSi (W.runS (As := [.int 0]) (rest := []) ⟨hx, hb, hml, hown, hts⟩ (ctX5_truth l 0) (va_cwS 1 hts (wA_wsS wm_ml_X5_69 wm_st_X5_truth wm_in_X5 wm_cd_X5_truth) rfl rfl rfl (by decide +kernel) ⟨Nat.le_of_ble_eq_true rfl, Nat.le_of_ble_eq_true rfl⟩) ⟨fun a U g mk q => q, fun U hU hW => ⟨rfl, trivial⟩⟩ rfl rfl hl.1 rfl (lv_room (Nat.le_of_ble_eq_true rfl)) dX5_operate_181 ⟨Nat.zero_le _, Nat.zero_le _⟩) (fun r27 er27 => ?_)
          subst er27
          exact W.iret (v := pm_tru 0) hx hb hr (fun t ht hW => ⟨pm_tru 0, rfl, by first | (subst k19; simp [pm_op, pm_tru, h20, h23, h26]; done) | (simp [pm_op, pm_tru, k1, k2, k3, k5, k7, k9, k14, k19, h20, h23, h26]; done) | (subst k19; simp_all [pm_op, pm_tru]; done) | (simp_all [pm_op, pm_tru]; done), ht⟩) (fun q hq => by cases hq) dX5_operate_184
        · skip
          refine lv_iconst (v := 1) hx hb dX5_operate_176 (by decide) ?_
          refine lv_goto (tgt := 181) hx hb dX5_operate_177 (by decide) ?_
          refine vp_callSi (W.runS (As := [.int 1]) (rest := []) ⟨hx, hb, hml, hown, hts⟩ (ctX5_truth l 1) (va_cwS 1 hts (wA_wsS wm_ml_X5_69 wm_st_X5_truth wm_in_X5 wm_cd_X5_truth) rfl rfl rfl (by decide +kernel) ⟨Nat.le_of_ble_eq_true rfl, Nat.le_of_ble_eq_true rfl⟩) ⟨fun a U g mk q => q, fun U hU hW => ⟨rfl, trivial⟩⟩ rfl rfl hl.1 rfl (lv_room (Nat.le_of_ble_eq_true rfl)) dX5_operate_181 ⟨Nat.zero_le _, Nat.zero_le _⟩) (fun r28 er28 => ?_)
          subst er28
          exact W.iret (v := pm_tru 1) hx hb hr (fun t ht hW => ⟨pm_tru 1, rfl, by first | (subst k19; simp [pm_op, pm_tru, h20, h23, h26]; done) | (simp [pm_op, pm_tru, k1, k2, k3, k5, k7, k9, k14, k19, h20, h23, h26]; done) | (subst k19; simp_all [pm_op, pm_tru]; done) | (simp_all [pm_op, pm_tru]; done), ht⟩) (fun q hq => by cases hq) dX5_operate_184
  by_cases k29 : k = 11
  · refine lv_tableIn (off := 184) (tgt := 185) hx hb dX5_operate_1 (by rw [k29]; decide) (by rw [k29]; decide) (by rw [k29]; rfl) (by decide) ?_
    refine lv_iload_n hx hb dX5_operate_185 rfl (lv_at hl 1 rfl) ?_
    refine lv_iload_n hx hb dX5_operate_186 rfl (lv_at hl 2 rfl) ?_
    refine vp_callSi (W.runS (As := [.int x, .int y]) (rest := []) ⟨hx, hb, hml, hown, hts⟩ (ctX5_equal l x y) (va_cwS 2 hts (wA_wsS wm_ml_X5_73 wm_st_X5_equal wm_in_X5 wm_cd_X5_equal) rfl rfl rfl (by decide +kernel) ⟨Nat.le_of_ble_eq_true rfl, Nat.le_of_ble_eq_true rfl⟩) ⟨fun a U g mk q => q, fun U hU hW => ⟨rfl, trivial⟩⟩ rfl rfl hl.1 rfl (lv_room (Nat.le_of_ble_eq_true rfl)) dX5_operate_187 ⟨Nat.zero_le _, Nat.zero_le _⟩) (fun r30 er30 => ?_)
    subst er30
    refine vp_callSi (W.runS (As := [.int (pm_eq x y)]) (rest := []) ⟨hx, hb, hml, hown, hts⟩ (ctX5_truth l (pm_eq x y)) (va_cwS 1 hts (wA_wsS wm_ml_X5_69 wm_st_X5_truth wm_in_X5 wm_cd_X5_truth) rfl rfl rfl (by decide +kernel) ⟨Nat.le_of_ble_eq_true rfl, Nat.le_of_ble_eq_true rfl⟩) ⟨fun a U g mk q => q, fun U hU hW => ⟨rfl, trivial⟩⟩ rfl rfl hl.1 rfl (lv_room (Nat.le_of_ble_eq_true rfl)) dX5_operate_190 ⟨Nat.zero_le _, Nat.zero_le _⟩) (fun r31 er31 => ?_)
    subst er31
    exact W.iret (v := pm_tru (pm_eq x y)) hx hb hr (fun t ht hW => ⟨pm_tru (pm_eq x y), rfl, by first | (subst k29; simp [pm_op, pm_tru, pu_nan]; done) | (simp [pm_op, pm_tru, k1, k2, k3, k5, k7, k9, k14, k19, k29]; done) | (subst k29; simp_all [pm_op, pm_tru]; done) | (simp_all [pm_op, pm_tru]; done), ht⟩) (fun q hq => by cases hq) dX5_operate_193
  by_cases k32 : k = 12
  · refine lv_tableIn (off := 193) (tgt := 194) hx hb dX5_operate_1 (by rw [k32]; decide) (by rw [k32]; decide) (by rw [k32]; rfl) (by decide) ?_
    refine lv_iload_n hx hb dX5_operate_194 rfl (lv_at hl 1 rfl) ?_
    refine lv_iload_n hx hb dX5_operate_195 rfl (lv_at hl 2 rfl) ?_
    refine vp_callSi (W.runS (As := [.int x, .int y]) (rest := []) ⟨hx, hb, hml, hown, hts⟩ (ctX5_less l x y) (va_cwS 2 hts (wA_wsS wm_ml_X5_65 wm_st_X5_less wm_in_X5 wm_cd_X5_less) rfl rfl rfl (by decide +kernel) ⟨Nat.le_of_ble_eq_true rfl, Nat.le_of_ble_eq_true rfl⟩) ⟨fun a U g mk q => q, fun U hU hW => ⟨rfl, trivial⟩⟩ rfl rfl hl.1 rfl (lv_room (Nat.le_of_ble_eq_true rfl)) dX5_operate_196 ⟨Nat.zero_le _, Nat.zero_le _⟩) (fun r33 er33 => ?_)
    subst er33
    refine vp_callSi (W.runS (As := [.int (pm_les x y)]) (rest := []) ⟨hx, hb, hml, hown, hts⟩ (ctX5_truth l (pm_les x y)) (va_cwS 1 hts (wA_wsS wm_ml_X5_69 wm_st_X5_truth wm_in_X5 wm_cd_X5_truth) rfl rfl rfl (by decide +kernel) ⟨Nat.le_of_ble_eq_true rfl, Nat.le_of_ble_eq_true rfl⟩) ⟨fun a U g mk q => q, fun U hU hW => ⟨rfl, trivial⟩⟩ rfl rfl hl.1 rfl (lv_room (Nat.le_of_ble_eq_true rfl)) dX5_operate_199 ⟨Nat.zero_le _, Nat.zero_le _⟩) (fun r34 er34 => ?_)
    subst er34
    exact W.iret (v := pm_tru (pm_les x y)) hx hb hr (fun t ht hW => ⟨pm_tru (pm_les x y), rfl, by first | (subst k32; simp [pm_op, pm_tru, pu_nan]; done) | (simp [pm_op, pm_tru, k1, k2, k3, k5, k7, k9, k14, k19, k29, k32]; done) | (subst k32; simp_all [pm_op, pm_tru]; done) | (simp_all [pm_op, pm_tru]; done), ht⟩) (fun q hq => by cases hq) dX5_operate_202
  by_cases k35 : k = 13
  · refine lv_tableIn (off := 202) (tgt := 203) hx hb dX5_operate_1 (by rw [k35]; decide) (by rw [k35]; decide) (by rw [k35]; rfl) (by decide) ?_
    refine lv_iload_n hx hb dX5_operate_203 rfl (lv_at hl 1 rfl) ?_
    refine lv_iload_n hx hb dX5_operate_204 rfl (lv_at hl 2 rfl) ?_
    refine vp_callSi (W.runS (As := [.int x, .int y]) (rest := []) ⟨hx, hb, hml, hown, hts⟩ (ctX5_less l x y) (va_cwS 2 hts (wA_wsS wm_ml_X5_65 wm_st_X5_less wm_in_X5 wm_cd_X5_less) rfl rfl rfl (by decide +kernel) ⟨Nat.le_of_ble_eq_true rfl, Nat.le_of_ble_eq_true rfl⟩) ⟨fun a U g mk q => q, fun U hU hW => ⟨rfl, trivial⟩⟩ rfl rfl hl.1 rfl (lv_room (Nat.le_of_ble_eq_true rfl)) dX5_operate_205 ⟨Nat.zero_le _, Nat.zero_le _⟩) (fun r36 er36 => ?_)
    subst er36
    refine lv_if_ne (tgt := 219) hx hb dX5_operate_208 (by decide) (fun h37 => ?_) (fun h37 => ?_)
    · skip
      refine lv_iconst (v := 1) hx hb dX5_operate_219 (by decide) ?_
      refine lv_goto (tgt := 224) hx hb dX5_operate_220 (by decide) ?_
      refine vp_callSi (W.runS (As := [.int 1]) (rest := []) ⟨hx, hb, hml, hown, hts⟩ (ctX5_truth l 1) (va_cwS 1 hts (wA_wsS wm_ml_X5_69 wm_st_X5_truth wm_in_X5 wm_cd_X5_truth) rfl rfl rfl (by decide +kernel) ⟨Nat.le_of_ble_eq_true rfl, Nat.le_of_ble_eq_true rfl⟩) ⟨fun a U g mk q => q, fun U hU hW => ⟨rfl, trivial⟩⟩ rfl rfl hl.1 rfl (lv_room (Nat.le_of_ble_eq_true rfl)) dX5_operate_224 ⟨Nat.zero_le _, Nat.zero_le _⟩) (fun r38 er38 => ?_)
      subst er38
      exact W.iret (v := pm_tru 1) hx hb hr (fun t ht hW => ⟨pm_tru 1, rfl, by first | (subst k35; simp [pm_op, pm_tru, h37]; done) | (simp [pm_op, pm_tru, k1, k2, k3, k5, k7, k9, k14, k19, k29, k32, k35, h37]; done) | (subst k35; simp_all [pm_op, pm_tru]; done) | (simp_all [pm_op, pm_tru]; done), ht⟩) (fun q hq => by cases hq) dX5_operate_227
    · skip
      refine lv_iload_n hx hb dX5_operate_211 rfl (lv_at hl 1 rfl) ?_
      refine lv_iload_n hx hb dX5_operate_212 rfl (lv_at hl 2 rfl) ?_
      refine vp_callSi (W.runS (As := [.int x, .int y]) (rest := []) ⟨hx, hb, hml, hown, hts⟩ (ctX5_equal l x y) (va_cwS 2 hts (wA_wsS wm_ml_X5_73 wm_st_X5_equal wm_in_X5 wm_cd_X5_equal) rfl rfl rfl (by decide +kernel) ⟨Nat.le_of_ble_eq_true rfl, Nat.le_of_ble_eq_true rfl⟩) ⟨fun a U g mk q => q, fun U hU hW => ⟨rfl, trivial⟩⟩ rfl rfl hl.1 rfl (lv_room (Nat.le_of_ble_eq_true rfl)) dX5_operate_213 ⟨Nat.zero_le _, Nat.zero_le _⟩) (fun r39 er39 => ?_)
      subst er39
      refine lv_if_eq (tgt := 223) hx hb dX5_operate_216 (by decide) (fun h40 => ?_) (fun h40 => ?_)
      · skip
        refine lv_iconst (v := 0) hx hb dX5_operate_223 (by decide) ?_
        refine vp_callSi (W.runS (As := [.int 0]) (rest := []) ⟨hx, hb, hml, hown, hts⟩ (ctX5_truth l 0) (va_cwS 1 hts (wA_wsS wm_ml_X5_69 wm_st_X5_truth wm_in_X5 wm_cd_X5_truth) rfl rfl rfl (by decide +kernel) ⟨Nat.le_of_ble_eq_true rfl, Nat.le_of_ble_eq_true rfl⟩) ⟨fun a U g mk q => q, fun U hU hW => ⟨rfl, trivial⟩⟩ rfl rfl hl.1 rfl (lv_room (Nat.le_of_ble_eq_true rfl)) dX5_operate_224 ⟨Nat.zero_le _, Nat.zero_le _⟩) (fun r41 er41 => ?_)
        subst er41
        exact W.iret (v := pm_tru 0) hx hb hr (fun t ht hW => ⟨pm_tru 0, rfl, by first | (subst k35; simp [pm_op, pm_tru, h37, h40]; done) | (simp [pm_op, pm_tru, k1, k2, k3, k5, k7, k9, k14, k19, k29, k32, k35, h37, h40]; done) | (subst k35; simp_all [pm_op, pm_tru]; done) | (simp_all [pm_op, pm_tru]; done), ht⟩) (fun q hq => by cases hq) dX5_operate_227
      · skip
        refine lv_iconst (v := 1) hx hb dX5_operate_219 (by decide) ?_
        refine lv_goto (tgt := 224) hx hb dX5_operate_220 (by decide) ?_
        refine vp_callSi (W.runS (As := [.int 1]) (rest := []) ⟨hx, hb, hml, hown, hts⟩ (ctX5_truth l 1) (va_cwS 1 hts (wA_wsS wm_ml_X5_69 wm_st_X5_truth wm_in_X5 wm_cd_X5_truth) rfl rfl rfl (by decide +kernel) ⟨Nat.le_of_ble_eq_true rfl, Nat.le_of_ble_eq_true rfl⟩) ⟨fun a U g mk q => q, fun U hU hW => ⟨rfl, trivial⟩⟩ rfl rfl hl.1 rfl (lv_room (Nat.le_of_ble_eq_true rfl)) dX5_operate_224 ⟨Nat.zero_le _, Nat.zero_le _⟩) (fun r42 er42 => ?_)
        subst er42
        exact W.iret (v := pm_tru 1) hx hb hr (fun t ht hW => ⟨pm_tru 1, rfl, by first | (subst k35; simp [pm_op, pm_tru, h37, h40]; done) | (simp [pm_op, pm_tru, k1, k2, k3, k5, k7, k9, k14, k19, k29, k32, k35, h37, h40]; done) | (subst k35; simp_all [pm_op, pm_tru]; done) | (simp_all [pm_op, pm_tru]; done), ht⟩) (fun q hq => by cases hq) dX5_operate_227
  by_cases k43 : k = 14
  · refine lv_tableIn (off := 227) (tgt := 228) hx hb dX5_operate_1 (by rw [k43]; decide) (by rw [k43]; decide) (by rw [k43]; rfl) (by decide) ?_
    refine lv_iload_n hx hb dX5_operate_228 rfl (lv_at hl 1 rfl) ?_
    refine vp_callSi (W.runS (As := [.int x]) (rest := []) ⟨hx, hb, hml, hown, hts⟩ (ctX5_nan l x) (va_cwS 1 hts (wA_wsS wm_ml_X5_46 wm_st_X5_nan wm_in_X5 wm_cd_X5_nan) rfl rfl rfl (by decide +kernel) ⟨Nat.le_of_ble_eq_true rfl, Nat.le_of_ble_eq_true rfl⟩) ⟨fun a U g mk q => q, fun U hU hW => ⟨rfl, trivial⟩⟩ rfl rfl hl.1 rfl (lv_room (Nat.le_of_ble_eq_true rfl)) dX5_operate_229 ⟨Nat.zero_le _, Nat.zero_le _⟩) (fun r44 er44 => ?_)
    subst er44
    refine vp_callSi (W.runS (As := [.int (pu_nan x)]) (rest := []) ⟨hx, hb, hml, hown, hts⟩ (ctX5_truth l (pu_nan x)) (va_cwS 1 hts (wA_wsS wm_ml_X5_69 wm_st_X5_truth wm_in_X5 wm_cd_X5_truth) rfl rfl rfl (by decide +kernel) ⟨Nat.le_of_ble_eq_true rfl, Nat.le_of_ble_eq_true rfl⟩) ⟨fun a U g mk q => q, fun U hU hW => ⟨rfl, trivial⟩⟩ rfl rfl hl.1 rfl (lv_room (Nat.le_of_ble_eq_true rfl)) dX5_operate_232 ⟨Nat.zero_le _, Nat.zero_le _⟩) (fun r45 er45 => ?_)
    subst er45
    exact W.iret (v := pm_tru (pu_nan x)) hx hb hr (fun t ht hW => ⟨pm_tru (pu_nan x), rfl, by first | (subst k43; simp [pm_op, pm_tru, pu_nan]; done) | (simp [pm_op, pm_tru, k1, k2, k3, k5, k7, k9, k14, k19, k29, k32, k35, k43]; done) | (subst k43; simp_all [pm_op, pm_tru]; done) | (simp_all [pm_op, pm_tru]; done), ht⟩) (fun q hq => by cases hq) dX5_operate_235
  by_cases k46 : k = 15
  · refine lv_tableIn (off := 235) (tgt := 236) hx hb dX5_operate_1 (by rw [k46]; decide) (by rw [k46]; decide) (by rw [k46]; rfl) (by decide) ?_
    refine lv_iload_n hx hb dX5_operate_236 rfl (lv_at hl 1 rfl) ?_
    refine vp_callSi (W.runS (As := [.int x]) (rest := []) ⟨hx, hb, hml, hown, hts⟩ (ctX5_infinite l x) (va_cwS 1 hts (wA_wsS wm_ml_X5_38 wm_st_X5_infinite wm_in_X5 wm_cd_X5_infinite) rfl rfl rfl (by decide +kernel) ⟨Nat.le_of_ble_eq_true rfl, Nat.le_of_ble_eq_true rfl⟩) ⟨fun a U g mk q => q, fun U hU hW => ⟨rfl, trivial⟩⟩ rfl rfl hl.1 rfl (lv_room (Nat.le_of_ble_eq_true rfl)) dX5_operate_237 ⟨Nat.zero_le _, Nat.zero_le _⟩) (fun r47 er47 => ?_)
    subst er47
    refine vp_callSi (W.runS (As := [.int (pu_inf x)]) (rest := []) ⟨hx, hb, hml, hown, hts⟩ (ctX5_truth l (pu_inf x)) (va_cwS 1 hts (wA_wsS wm_ml_X5_69 wm_st_X5_truth wm_in_X5 wm_cd_X5_truth) rfl rfl rfl (by decide +kernel) ⟨Nat.le_of_ble_eq_true rfl, Nat.le_of_ble_eq_true rfl⟩) ⟨fun a U g mk q => q, fun U hU hW => ⟨rfl, trivial⟩⟩ rfl rfl hl.1 rfl (lv_room (Nat.le_of_ble_eq_true rfl)) dX5_operate_240 ⟨Nat.zero_le _, Nat.zero_le _⟩) (fun r48 er48 => ?_)
    subst er48
    exact W.iret (v := pm_tru (pu_inf x)) hx hb hr (fun t ht hW => ⟨pm_tru (pu_inf x), rfl, by first | (subst k46; simp [pm_op, pm_tru, pu_nan]; done) | (simp [pm_op, pm_tru, k1, k2, k3, k5, k7, k9, k14, k19, k29, k32, k35, k43, k46]; done) | (subst k46; simp_all [pm_op, pm_tru]; done) | (simp_all [pm_op, pm_tru]; done), ht⟩) (fun q hq => by cases hq) dX5_operate_243
  by_cases k49 : k = 16
  · refine lv_tableIn (off := 243) (tgt := 244) hx hb dX5_operate_1 (by rw [k49]; decide) (by rw [k49]; decide) (by rw [k49]; rfl) (by decide) ?_
    refine lv_iload_n hx hb dX5_operate_244 rfl (lv_at hl 1 rfl) ?_
    refine vp_callSi (W.runS (As := [.int x]) (rest := []) ⟨hx, hb, hml, hown, hts⟩ (ctX5_zero l x) (va_cwS 1 hts (wA_wsS wm_ml_X5_55 wm_st_X5_zero wm_in_X5 wm_cd_X5_zero) rfl rfl rfl (by decide +kernel) ⟨Nat.le_of_ble_eq_true rfl, Nat.le_of_ble_eq_true rfl⟩) ⟨fun a U g mk q => q, fun U hU hW => ⟨rfl, trivial⟩⟩ rfl rfl hl.1 rfl (lv_room (Nat.le_of_ble_eq_true rfl)) dX5_operate_245 ⟨Nat.zero_le _, Nat.zero_le _⟩) (fun r50 er50 => ?_)
    subst er50
    refine vp_callSi (W.runS (As := [.int (pu_zer x)]) (rest := []) ⟨hx, hb, hml, hown, hts⟩ (ctX5_truth l (pu_zer x)) (va_cwS 1 hts (wA_wsS wm_ml_X5_69 wm_st_X5_truth wm_in_X5 wm_cd_X5_truth) rfl rfl rfl (by decide +kernel) ⟨Nat.le_of_ble_eq_true rfl, Nat.le_of_ble_eq_true rfl⟩) ⟨fun a U g mk q => q, fun U hU hW => ⟨rfl, trivial⟩⟩ rfl rfl hl.1 rfl (lv_room (Nat.le_of_ble_eq_true rfl)) dX5_operate_248 ⟨Nat.zero_le _, Nat.zero_le _⟩) (fun r51 er51 => ?_)
    subst er51
    exact W.iret (v := pm_tru (pu_zer x)) hx hb hr (fun t ht hW => ⟨pm_tru (pu_zer x), rfl, by first | (subst k49; simp [pm_op, pm_tru, pu_nan]; done) | (simp [pm_op, pm_tru, k1, k2, k3, k5, k7, k9, k14, k19, k29, k32, k35, k43, k46, k49]; done) | (subst k49; simp_all [pm_op, pm_tru]; done) | (simp_all [pm_op, pm_tru]; done), ht⟩) (fun q hq => by cases hq) dX5_operate_251
  by_cases k52 : k = 17
  · refine lv_tableIn (off := 251) (tgt := 252) hx hb dX5_operate_1 (by rw [k52]; decide) (by rw [k52]; decide) (by rw [k52]; rfl) (by decide) ?_
    refine lv_iconst (v := 1) hx hb dX5_operate_252 (by decide) ?_
    refine lv_iload_n hx hb dX5_operate_253 rfl (lv_at hl 1 rfl) ?_
    refine lv_isub hx hb dX5_operate_254 ?_
    exact W.iret (v := 1 - x) hx hb hr (fun t ht hW => ⟨1 - x, rfl, by first | (subst k52; simp [pm_op, pm_tru, pu_nan]; done) | (simp [pm_op, pm_tru, k1, k2, k3, k5, k7, k9, k14, k19, k29, k32, k35, k43, k46, k49, k52]; done) | (subst k52; simp_all [pm_op, pm_tru]; done) | (simp_all [pm_op, pm_tru]; done), ht⟩) (fun q hq => by cases hq) dX5_operate_255
  by_cases k53 : k = 18
  · refine lv_tableIn (off := 255) (tgt := 256) hx hb dX5_operate_1 (by rw [k53]; decide) (by rw [k53]; decide) (by rw [k53]; rfl) (by decide) ?_
    refine lv_iload_n hx hb dX5_operate_256 rfl (lv_at hl 1 rfl) ?_
    refine lv_iload_n hx hb dX5_operate_257 rfl (lv_at hl 2 rfl) ?_
    refine lv_imul hx hb dX5_operate_258 ?_
    exact W.iret (v := x * y) hx hb hr (fun t ht hW => ⟨x * y, rfl, by first | (subst k53; simp [pm_op, pm_tru, pu_nan]; done) | (simp [pm_op, pm_tru, k1, k2, k3, k5, k7, k9, k14, k19, k29, k32, k35, k43, k46, k49, k52, k53]; done) | (subst k53; simp_all [pm_op, pm_tru]; done) | (simp_all [pm_op, pm_tru]; done), ht⟩) (fun q hq => by cases hq) dX5_operate_259
  by_cases k54 : k = 9
  · refine lv_tableIn (off := 259) (tgt := 260) hx hb dX5_operate_1 (by rw [k54]; decide) (by rw [k54]; decide) (by rw [k54]; rfl) (by decide) ?_
    refine lv_iload_n hx hb dX5_operate_260 rfl (lv_at hl 1 rfl) ?_
    refine lv_iload_n hx hb dX5_operate_261 rfl (lv_at hl 2 rfl) ?_
    refine lv_iadd hx hb dX5_operate_262 ?_
    refine lv_if_le (tgt := 270) hx hb dX5_operate_263 (by decide) (fun h55 => ?_) (fun h55 => ?_)
    · skip
      have h55b := Int32.not_lt.mpr h55
      refine lv_iconst (v := 0) hx hb dX5_operate_270 (by decide) ?_
      refine vp_callSi (W.runS (As := [.int 0]) (rest := []) ⟨hx, hb, hml, hown, hts⟩ (ctX5_truth l 0) (va_cwS 1 hts (wA_wsS wm_ml_X5_69 wm_st_X5_truth wm_in_X5 wm_cd_X5_truth) rfl rfl rfl (by decide +kernel) ⟨Nat.le_of_ble_eq_true rfl, Nat.le_of_ble_eq_true rfl⟩) ⟨fun a U g mk q => q, fun U hU hW => ⟨rfl, trivial⟩⟩ rfl rfl hl.1 rfl (lv_room (Nat.le_of_ble_eq_true rfl)) dX5_operate_271 ⟨Nat.zero_le _, Nat.zero_le _⟩) (fun r56 er56 => ?_)
      subst er56
      exact W.iret (v := pm_tru 0) hx hb hr (fun t ht hW => ⟨pm_tru 0, rfl, by first | (subst k54; simp [pm_op, pm_tru, h55, h55b]; done) | (simp [pm_op, pm_tru, k1, k2, k3, k5, k7, k9, k14, k19, k29, k32, k35, k43, k46, k49, k52, k53, k54, h55, h55b]; done) | (subst k54; simp_all [pm_op, pm_tru]; done) | (simp_all [pm_op, pm_tru]; done), ht⟩) (fun q hq => by cases hq) dX5_operate_274
    · skip
      have h55b := Int32.not_le.mp h55
      refine lv_iconst (v := 1) hx hb dX5_operate_266 (by decide) ?_
      refine lv_goto (tgt := 271) hx hb dX5_operate_267 (by decide) ?_
      refine vp_callSi (W.runS (As := [.int 1]) (rest := []) ⟨hx, hb, hml, hown, hts⟩ (ctX5_truth l 1) (va_cwS 1 hts (wA_wsS wm_ml_X5_69 wm_st_X5_truth wm_in_X5 wm_cd_X5_truth) rfl rfl rfl (by decide +kernel) ⟨Nat.le_of_ble_eq_true rfl, Nat.le_of_ble_eq_true rfl⟩) ⟨fun a U g mk q => q, fun U hU hW => ⟨rfl, trivial⟩⟩ rfl rfl hl.1 rfl (lv_room (Nat.le_of_ble_eq_true rfl)) dX5_operate_271 ⟨Nat.zero_le _, Nat.zero_le _⟩) (fun r57 er57 => ?_)
      subst er57
      exact W.iret (v := pm_tru 1) hx hb hr (fun t ht hW => ⟨pm_tru 1, rfl, by first | (subst k54; simp [pm_op, pm_tru, h55, h55b]; done) | (simp [pm_op, pm_tru, k1, k2, k3, k5, k7, k9, k14, k19, k29, k32, k35, k43, k46, k49, k52, k53, k54, h55, h55b]; done) | (subst k54; simp_all [pm_op, pm_tru]; done) | (simp_all [pm_op, pm_tru]; done), ht⟩) (fun q hq => by cases hq) dX5_operate_274
  refine lv_tableOut (tgt := 260) hx hb dX5_operate_1 (sw_out 2 18 (by decide) (fun j h1 h2 e => ?_)) (by decide) ?_
  · rcases (show j = 2 ∨ j = 3 ∨ j = 4 ∨ j = 5 ∨ j = 6 ∨ j = 7 ∨ j = 8 ∨ j = 9 ∨ j = 10 ∨ j = 11 ∨ j = 12 ∨ j = 13 ∨ j = 14 ∨ j = 15 ∨ j = 16 ∨ j = 17 ∨ j = 18 by omega) with rfl | rfl | rfl | rfl | rfl | rfl | rfl | rfl | rfl | rfl | rfl | rfl | rfl | rfl | rfl | rfl | rfl
    · exact k1 e
    · exact k2 e
    · exact k3 e
    · exact k5 e
    · exact k7 e
    · exact k9 e
    · exact k14 e
    · exact k54 e
    · exact k19 e
    · exact k29 e
    · exact k32 e
    · exact k35 e
    · exact k43 e
    · exact k46 e
    · exact k49 e
    · exact k52 e
    · exact k53 e
  refine lv_iload_n hx hb dX5_operate_260 rfl (lv_at hl 1 rfl) ?_
  refine lv_iload_n hx hb dX5_operate_261 rfl (lv_at hl 2 rfl) ?_
  refine lv_iadd hx hb dX5_operate_262 ?_
  refine lv_if_le (tgt := 270) hx hb dX5_operate_263 (by decide) (fun h58 => ?_) (fun h58 => ?_)
  · skip
    have h58b := Int32.not_lt.mpr h58
    refine lv_iconst (v := 0) hx hb dX5_operate_270 (by decide) ?_
    refine vp_callSi (W.runS (As := [.int 0]) (rest := []) ⟨hx, hb, hml, hown, hts⟩ (ctX5_truth l 0) (va_cwS 1 hts (wA_wsS wm_ml_X5_69 wm_st_X5_truth wm_in_X5 wm_cd_X5_truth) rfl rfl rfl (by decide +kernel) ⟨Nat.le_of_ble_eq_true rfl, Nat.le_of_ble_eq_true rfl⟩) ⟨fun a U g mk q => q, fun U hU hW => ⟨rfl, trivial⟩⟩ rfl rfl hl.1 rfl (lv_room (Nat.le_of_ble_eq_true rfl)) dX5_operate_271 ⟨Nat.zero_le _, Nat.zero_le _⟩) (fun r59 er59 => ?_)
    subst er59
    exact W.iret (v := pm_tru 0) hx hb hr (fun t ht hW => ⟨pm_tru 0, rfl, by first | (subst k54; simp [pm_op, pm_tru, h58, h58b]; done) | (simp [pm_op, pm_tru, k1, k2, k3, k5, k7, k9, k14, k19, k29, k32, k35, k43, k46, k49, k52, k53, k54, h58, h58b]; done) | (subst k54; simp_all [pm_op, pm_tru]; done) | (simp_all [pm_op, pm_tru]; done), ht⟩) (fun q hq => by cases hq) dX5_operate_274
  · skip
    have h58b := Int32.not_le.mp h58
    refine lv_iconst (v := 1) hx hb dX5_operate_266 (by decide) ?_
    refine lv_goto (tgt := 271) hx hb dX5_operate_267 (by decide) ?_
    refine vp_callSi (W.runS (As := [.int 1]) (rest := []) ⟨hx, hb, hml, hown, hts⟩ (ctX5_truth l 1) (va_cwS 1 hts (wA_wsS wm_ml_X5_69 wm_st_X5_truth wm_in_X5 wm_cd_X5_truth) rfl rfl rfl (by decide +kernel) ⟨Nat.le_of_ble_eq_true rfl, Nat.le_of_ble_eq_true rfl⟩) ⟨fun a U g mk q => q, fun U hU hW => ⟨rfl, trivial⟩⟩ rfl rfl hl.1 rfl (lv_room (Nat.le_of_ble_eq_true rfl)) dX5_operate_271 ⟨Nat.zero_le _, Nat.zero_le _⟩) (fun r60 er60 => ?_)
    subst er60
    exact W.iret (v := pm_tru 1) hx hb hr (fun t ht hW => ⟨pm_tru 1, rfl, by first | (subst k54; simp [pm_op, pm_tru, h58, h58b]; done) | (simp [pm_op, pm_tru, k1, k2, k3, k5, k7, k9, k14, k19, k29, k32, k35, k43, k46, k49, k52, k53, k54, h58, h58b]; done) | (subst k54; simp_all [pm_op, pm_tru]; done) | (simp_all [pm_op, pm_tru]; done), ht⟩) (fun q hq => by cases hq) dX5_operate_274
